/-! part 41.c: by program (wip/whole/sem.py) -/
/-! 92 PlayedTruth.bestSetting([III)I -/
noncomputable def R_92_57 (v1 : Nat) (v2 : Int32) (v4 : Int32) (v5 : Int32) (h : Hp) : Option (Int32 × Hp) := gd (IA v1 v2) (some (v5, (wr h v1 (Int32.toNatClampNeg v2) v4)))
theorem r_92_57 {X : GX} {d : Nat} {r : Int32 × Hp} (hd : 7 ≤ d) (hq : RtX X (some (.int r.1)) r.2) {h : Hp} {v1 : Nat} {v2 : Int32} {v4 : Int32} {v5 : Int32} (e : R_92_57 v1 v2 v4 v5 h = some r) : G X d 92 57 [none, some (.ref v1), some (.int v2), none, some (.int v4), some (.int v5), none, none, none] [] h := by
  unfold R_92_57 at e
  have g := gd_s e; clear e; obtain ⟨b0, e⟩ := g
  rw [← Option.some.inj e] at hq
  exact k_92_57 b0 hq
noncomputable def R_92_51 (rec_14 : Nat → Int32 → Int32 → Int32 → Int32 → Int32 → Int32 → Hp → Option (Int32 × Hp)) (v1 : Nat) (v2 : Int32) (v3 : Int32) (v4 : Int32) (v5 : Int32) (v6 : Int32) (v7 : Int32) (h : Hp) : Option (Int32 × Hp) := rec_14 v1 v2 v3 v4 v5 v6 (v7 + 1) h
theorem r_92_51 {X : GX} {d : Nat} {r : Int32 × Hp} (hd : 7 ≤ d) (hq : RtX X (some (.int r.1)) r.2) {rec_14 : Nat → Int32 → Int32 → Int32 → Int32 → Int32 → Int32 → Hp → Option (Int32 × Hp)} (hr_14 : ∀ {v1 : Nat} {v2 : Int32} {v3 : Int32} {v4 : Int32} {v5 : Int32} {v6 : Int32} {v7 : Int32} {h : Hp}, rec_14 v1 v2 v3 v4 v5 v6 v7 h = some r → G X d 92 14 [some (.ref 0), some (.ref v1), some (.int v2), some (.int v3), some (.int v4), some (.int v5), some (.int v6), some (.int v7), none] [] h) {h : Hp} {v1 : Nat} {v2 : Int32} {v3 : Int32} {v4 : Int32} {v5 : Int32} {v6 : Int32} {v7 : Int32} (e : R_92_51 rec_14 v1 v2 v3 v4 v5 v6 v7 h = some r) : G X d 92 51 [some (.ref 0), some (.ref v1), some (.int v2), some (.int v3), some (.int v4), some (.int v5), some (.int v6), some (.int v7), none] [] h := by
  unfold R_92_51 at e
  exact k_92_51 (hr_14 e)
noncomputable def R_92_43 (rec_14 : Nat → Int32 → Int32 → Int32 → Int32 → Int32 → Int32 → Hp → Option (Int32 × Hp)) (v1 : Nat) (v2 : Int32) (v3 : Int32) (v4 : Int32) (v7 : Int32) (v8 : Int32) (h : Hp) : Option (Int32 × Hp) := rec_14 v1 v2 v3 v4 v7 v8 (v7 + 1) h
theorem r_92_43 {X : GX} {d : Nat} {r : Int32 × Hp} (hd : 7 ≤ d) (hq : RtX X (some (.int r.1)) r.2) {rec_14 : Nat → Int32 → Int32 → Int32 → Int32 → Int32 → Int32 → Hp → Option (Int32 × Hp)} (hr_14 : ∀ {v1 : Nat} {v2 : Int32} {v3 : Int32} {v4 : Int32} {v5 : Int32} {v6 : Int32} {v7 : Int32} {h : Hp}, rec_14 v1 v2 v3 v4 v5 v6 v7 h = some r → G X d 92 14 [some (.ref 0), some (.ref v1), some (.int v2), some (.int v3), some (.int v4), some (.int v5), some (.int v6), some (.int v7), none] [] h) {h : Hp} {v1 : Nat} {v2 : Int32} {v3 : Int32} {v4 : Int32} {v7 : Int32} {v8 : Int32} (e : R_92_43 rec_14 v1 v2 v3 v4 v7 v8 h = some r) : G X d 92 43 [some (.ref 0), some (.ref v1), some (.int v2), some (.int v3), some (.int v4), none, none, some (.int v7), some (.int v8)] [] h := by
  unfold R_92_43 at e
  exact k_92_43 (hr_14 e)
noncomputable def R_92_34 (rec_14 : Nat → Int32 → Int32 → Int32 → Int32 → Int32 → Int32 → Hp → Option (Int32 × Hp)) (v1 : Nat) (v2 : Int32) (v3 : Int32) (v4 : Int32) (v5 : Int32) (v6 : Int32) (v7 : Int32) (s0 : Int32) (h : Hp) : Option (Int32 × Hp) := if s0 ≤ v6 then R_92_51 rec_14 v1 v2 v3 v4 v5 v6 v7 h else R_92_43 rec_14 v1 v2 v3 v4 v7 s0 h
theorem r_92_34 {X : GX} {d : Nat} {r : Int32 × Hp} (hd : 7 ≤ d) (hq : RtX X (some (.int r.1)) r.2) {rec_14 : Nat → Int32 → Int32 → Int32 → Int32 → Int32 → Int32 → Hp → Option (Int32 × Hp)} (hr_14 : ∀ {v1 : Nat} {v2 : Int32} {v3 : Int32} {v4 : Int32} {v5 : Int32} {v6 : Int32} {v7 : Int32} {h : Hp}, rec_14 v1 v2 v3 v4 v5 v6 v7 h = some r → G X d 92 14 [some (.ref 0), some (.ref v1), some (.int v2), some (.int v3), some (.int v4), some (.int v5), some (.int v6), some (.int v7), none] [] h) {h : Hp} {v1 : Nat} {v2 : Int32} {v3 : Int32} {v4 : Int32} {v5 : Int32} {v6 : Int32} {v7 : Int32} {s0 : Int32} (e : R_92_34 rec_14 v1 v2 v3 v4 v5 v6 v7 s0 h = some r) : G X d 92 34 [some (.ref 0), some (.ref v1), some (.int v2), some (.int v3), some (.int v4), some (.int v5), some (.int v6), some (.int v7), none] [.int s0] h := by
  unfold R_92_34 at e
  refine k_92_34 (fun c => ?_) (fun c => ?_)
  · rw [if_pos c] at e; exact r_92_51 hd hq hr_14 e
  · rw [if_neg c] at e; exact r_92_43 hd hq hr_14 e
noncomputable def R_92_20 (rec_14 : Nat → Int32 → Int32 → Int32 → Int32 → Int32 → Int32 → Hp → Option (Int32 × Hp)) (v1 : Nat) (v2 : Int32) (v3 : Int32) (v4 : Int32) (v5 : Int32) (v6 : Int32) (v7 : Int32) (h : Hp) : Option (Int32 × Hp) := gd (IA v1 v2) (bndI (S_86 16 ((wr h v1 (Int32.toNatClampNeg v2) v7))) (R_92_34 rec_14 v1 v2 v3 v4 v5 v6 v7))
theorem r_92_20 {X : GX} {d : Nat} {r : Int32 × Hp} (hd : 7 ≤ d) (hq : RtX X (some (.int r.1)) r.2) {rec_14 : Nat → Int32 → Int32 → Int32 → Int32 → Int32 → Int32 → Hp → Option (Int32 × Hp)} (hr_14 : ∀ {v1 : Nat} {v2 : Int32} {v3 : Int32} {v4 : Int32} {v5 : Int32} {v6 : Int32} {v7 : Int32} {h : Hp}, rec_14 v1 v2 v3 v4 v5 v6 v7 h = some r → G X d 92 14 [some (.ref 0), some (.ref v1), some (.int v2), some (.int v3), some (.int v4), some (.int v5), some (.int v6), some (.int v7), none] [] h) {h : Hp} {v1 : Nat} {v2 : Int32} {v3 : Int32} {v4 : Int32} {v5 : Int32} {v6 : Int32} {v7 : Int32} (e : R_92_20 rec_14 v1 v2 v3 v4 v5 v6 v7 h = some r) : G X d 92 20 [some (.ref 0), some (.ref v1), some (.int v2), some (.int v3), some (.int v4), some (.int v5), some (.int v6), some (.int v7), none] [] h := by
  unfold R_92_20 at e
  have g := gd_s e; clear e; obtain ⟨b0, e⟩ := g
  obtain ⟨x, h2, e1, e2⟩ := bndI_s e
  refine k_92_20 b0 (by omega) (t_86 e1) ?_
  rintro _ _ ⟨rfl, rfl⟩
  exact r_92_34 hd hq hr_14 e2
noncomputable def R_92_14 (rec_14 : Nat → Int32 → Int32 → Int32 → Int32 → Int32 → Int32 → Hp → Option (Int32 × Hp)) (v1 : Nat) (v2 : Int32) (v3 : Int32) (v4 : Int32) (v5 : Int32) (v6 : Int32) (v7 : Int32) (h : Hp) : Option (Int32 × Hp) := if v3 < v7 then R_92_57 v1 v2 v4 v5 h else R_92_20 rec_14 v1 v2 v3 v4 v5 v6 v7 h
theorem r_92_14 {X : GX} {d : Nat} {r : Int32 × Hp} (hd : 7 ≤ d) (hq : RtX X (some (.int r.1)) r.2) {rec_14 : Nat → Int32 → Int32 → Int32 → Int32 → Int32 → Int32 → Hp → Option (Int32 × Hp)} (hr_14 : ∀ {v1 : Nat} {v2 : Int32} {v3 : Int32} {v4 : Int32} {v5 : Int32} {v6 : Int32} {v7 : Int32} {h : Hp}, rec_14 v1 v2 v3 v4 v5 v6 v7 h = some r → G X d 92 14 [some (.ref 0), some (.ref v1), some (.int v2), some (.int v3), some (.int v4), some (.int v5), some (.int v6), some (.int v7), none] [] h) {h : Hp} {v1 : Nat} {v2 : Int32} {v3 : Int32} {v4 : Int32} {v5 : Int32} {v6 : Int32} {v7 : Int32} (e : R_92_14 rec_14 v1 v2 v3 v4 v5 v6 v7 h = some r) : G X d 92 14 [some (.ref 0), some (.ref v1), some (.int v2), some (.int v3), some (.int v4), some (.int v5), some (.int v6), some (.int v7), none] [] h := by
  unfold R_92_14 at e
  refine k_92_14 (fun c => ?_) (fun c => ?_)
  · rw [if_pos c] at e; exact r_92_57 hd hq e
  · rw [if_neg c] at e; exact r_92_20 hd hq hr_14 e
noncomputable def H_92_14 : Nat → Nat → Int32 → Int32 → Int32 → Int32 → Int32 → Int32 → Hp → Option (Int32 × Hp)
  | 0, _, _, _, _, _, _, _, _ => none
  | n + 1, v1, v2, v3, v4, v5, v6, v7, h => R_92_14 (H_92_14 n) v1 v2 v3 v4 v5 v6 v7 h
theorem h_92_14 {X : GX} {d : Nat} {r : Int32 × Hp} (hd : 7 ≤ d) (hq : RtX X (some (.int r.1)) r.2) {n : Nat} {h : Hp} {v1 : Nat} {v2 : Int32} {v3 : Int32} {v4 : Int32} {v5 : Int32} {v6 : Int32} {v7 : Int32} (e : H_92_14 n v1 v2 v3 v4 v5 v6 v7 h = some r) : G X d 92 14 [some (.ref 0), some (.ref v1), some (.int v2), some (.int v3), some (.int v4), some (.int v5), some (.int v6), some (.int v7), none] [] h := by
  induction n generalizing v1 v2 v3 v4 v5 v6 v7 h with
  | zero => cases e
  | succ n ih => exact r_92_14 hd hq (fun e => ih e) e
noncomputable def R_92_0 (v1 : Nat) (v2 : Int32) (v3 : Int32) (h : Hp) : Option (Int32 × Hp) := gd (IA v1 v2) (H_92_14 fuL v1 v2 v3 (h v1 (Int32.toNatClampNeg v2)) 0 ((-1)) 0 h)
theorem r_92_0 {X : GX} {d : Nat} {r : Int32 × Hp} (hd : 7 ≤ d) (hq : RtX X (some (.int r.1)) r.2) {h : Hp} {v1 : Nat} {v2 : Int32} {v3 : Int32} (e : R_92_0 v1 v2 v3 h = some r) : G X d 92 0 [some (.ref 0), some (.ref v1), some (.int v2), some (.int v3), none, none, none, none, none] [] h := by
  unfold R_92_0 at e
  have g := gd_s e; clear e; obtain ⟨b0, e⟩ := g
  exact k_92_0 b0 (h_92_14 hd hq e)
noncomputable def S_92 (v1 : Nat) (v2 : Int32) (v3 : Int32) (h : Hp) : Option (Int32 × Hp) := R_92_0 v1 v2 v3 h
set_option maxRecDepth 100000 in
theorem t_92 {v1 : Nat} {v2 : Int32} {v3 : Int32} {h : Hp} {r : Int32 × Hp} (e : S_92 v1 v2 v3 h = some r) : CI 7 92 [.ref 0, .ref v1, .int v2, .int v3] h (fun x g => x = r.1 ∧ g = r.2) := by
  refine C.of mo_92 (Nat.le_of_ble_eq_true rfl) (fun X hq => ?_)
  exact r_92_0 (Nat.le_refl _) (hq _ _ ⟨_, rfl, rfl, rfl⟩) e
/-! 91 PlayedTruth.prettyFor(I)I -/
noncomputable def R_91_25 (h : Hp) : Option (Int32 × Hp) := some (((-1)), h)
theorem r_91_25 {X : GX} {d : Nat} {r : Int32 × Hp} (hd : 8 ≤ d) (hq : RtX X (some (.int r.1)) r.2) {h : Hp} (e : R_91_25 h = some r) : G X d 91 25 [none, none] [] h := by
  unfold R_91_25 at e
  rw [← Option.some.inj e] at hq
  exact k_91_25 hq
noncomputable def R_91_22 (s0 : Int32) (h : Hp) : Option (Int32 × Hp) := some (s0, h)
theorem r_91_22 {X : GX} {d : Nat} {r : Int32 × Hp} (hd : 8 ≤ d) (hq : RtX X (some (.int r.1)) r.2) {h : Hp} {s0 : Int32} (e : R_91_22 s0 h = some r) : G X d 91 22 [none, none] [.int s0] h := by
  unfold R_91_22 at e
  rw [← Option.some.inj e] at hq
  exact k_91_22 hq
noncomputable def R_91_8 (v1 : Int32) (h : Hp) : Option (Int32 × Hp) := bndI (S_92 15 v1 9 h) (R_91_22)
theorem r_91_8 {X : GX} {d : Nat} {r : Int32 × Hp} (hd : 8 ≤ d) (hq : RtX X (some (.int r.1)) r.2) {h : Hp} {v1 : Int32} (e : R_91_8 v1 h = some r) : G X d 91 8 [some (.ref 0), some (.int v1)] [] h := by
  unfold R_91_8 at e
  obtain ⟨x, h2, e1, e2⟩ := bndI_s e
  refine k_91_8 (by omega) (t_92 e1) ?_
  rintro _ _ ⟨rfl, rfl⟩
  exact r_91_22 hd hq e2
noncomputable def R_91_5 (v1 : Int32) (s0 : Int32) (h : Hp) : Option (Int32 × Hp) := if s0 = 0 then R_91_25 h else R_91_8 v1 h
theorem r_91_5 {X : GX} {d : Nat} {r : Int32 × Hp} (hd : 8 ≤ d) (hq : RtX X (some (.int r.1)) r.2) {h : Hp} {v1 : Int32} {s0 : Int32} (e : R_91_5 v1 s0 h = some r) : G X d 91 5 [some (.ref 0), some (.int v1)] [.int s0] h := by
  unfold R_91_5 at e
  refine k_91_5 (fun c => ?_) (fun c => ?_)
  · rw [if_pos c] at e; exact r_91_25 hd hq e
  · rw [if_neg c] at e; exact r_91_8 hd hq e
noncomputable def R_91_0 (v1 : Int32) (h : Hp) : Option (Int32 × Hp) := bndI (S_14 v1 h) (R_91_5 v1)
theorem r_91_0 {X : GX} {d : Nat} {r : Int32 × Hp} (hd : 8 ≤ d) (hq : RtX X (some (.int r.1)) r.2) {h : Hp} {v1 : Int32} (e : R_91_0 v1 h = some r) : G X d 91 0 [some (.ref 0), some (.int v1)] [] h := by
  unfold R_91_0 at e
  obtain ⟨x, h2, e1, e2⟩ := bndI_s e
  refine k_91_0 (by omega) (t_14 e1) ?_
  rintro _ _ ⟨rfl, rfl⟩
  exact r_91_5 hd hq e2
noncomputable def S_91 (v1 : Int32) (h : Hp) : Option (Int32 × Hp) := R_91_0 v1 h
set_option maxRecDepth 100000 in
theorem t_91 {v1 : Int32} {h : Hp} {r : Int32 × Hp} (e : S_91 v1 h = some r) : CI 8 91 [.ref 0, .int v1] h (fun x g => x = r.1 ∧ g = r.2) := by
  refine C.of mo_91 (Nat.le_of_ble_eq_true rfl) (fun X hq => ?_)
  exact r_91_0 (Nat.le_refl _) (hq _ _ ⟨_, rfl, rfl, rfl⟩) e
/-! 93 PlayedTruth.placeFor(I)I -/
noncomputable def R_93_24 (h : Hp) : Option (Int32 × Hp) := some (((-1)), h)
theorem r_93_24 {X : GX} {d : Nat} {r : Int32 × Hp} (hd : 8 ≤ d) (hq : RtX X (some (.int r.1)) r.2) {h : Hp} (e : R_93_24 h = some r) : G X d 93 24 [none, none] [] h := by
  unfold R_93_24 at e
  rw [← Option.some.inj e] at hq
  exact k_93_24 hq
noncomputable def R_93_21 (s0 : Int32) (h : Hp) : Option (Int32 × Hp) := some (s0, h)
theorem r_93_21 {X : GX} {d : Nat} {r : Int32 × Hp} (hd : 8 ≤ d) (hq : RtX X (some (.int r.1)) r.2) {h : Hp} {s0 : Int32} (e : R_93_21 s0 h = some r) : G X d 93 21 [none, none] [.int s0] h := by
  unfold R_93_21 at e
  rw [← Option.some.inj e] at hq
  exact k_93_21 hq
noncomputable def R_93_8 (v1 : Int32) (h : Hp) : Option (Int32 × Hp) := bndI (S_92 3 v1 5 h) (R_93_21)
theorem r_93_8 {X : GX} {d : Nat} {r : Int32 × Hp} (hd : 8 ≤ d) (hq : RtX X (some (.int r.1)) r.2) {h : Hp} {v1 : Int32} (e : R_93_8 v1 h = some r) : G X d 93 8 [some (.ref 0), some (.int v1)] [] h := by
  unfold R_93_8 at e
  obtain ⟨x, h2, e1, e2⟩ := bndI_s e
  refine k_93_8 (by omega) (t_92 e1) ?_
  rintro _ _ ⟨rfl, rfl⟩
  exact r_93_21 hd hq e2
noncomputable def R_93_5 (v1 : Int32) (s0 : Int32) (h : Hp) : Option (Int32 × Hp) := if s0 = 0 then R_93_24 h else R_93_8 v1 h
theorem r_93_5 {X : GX} {d : Nat} {r : Int32 × Hp} (hd : 8 ≤ d) (hq : RtX X (some (.int r.1)) r.2) {h : Hp} {v1 : Int32} {s0 : Int32} (e : R_93_5 v1 s0 h = some r) : G X d 93 5 [some (.ref 0), some (.int v1)] [.int s0] h := by
  unfold R_93_5 at e
  refine k_93_5 (fun c => ?_) (fun c => ?_)
  · rw [if_pos c] at e; exact r_93_24 hd hq e
  · rw [if_neg c] at e; exact r_93_8 hd hq e
noncomputable def R_93_0 (v1 : Int32) (h : Hp) : Option (Int32 × Hp) := bndI (S_14 v1 h) (R_93_5 v1)
theorem r_93_0 {X : GX} {d : Nat} {r : Int32 × Hp} (hd : 8 ≤ d) (hq : RtX X (some (.int r.1)) r.2) {h : Hp} {v1 : Int32} (e : R_93_0 v1 h = some r) : G X d 93 0 [some (.ref 0), some (.int v1)] [] h := by
  unfold R_93_0 at e
  obtain ⟨x, h2, e1, e2⟩ := bndI_s e
  refine k_93_0 (by omega) (t_14 e1) ?_
  rintro _ _ ⟨rfl, rfl⟩
  exact r_93_5 hd hq e2
noncomputable def S_93 (v1 : Int32) (h : Hp) : Option (Int32 × Hp) := R_93_0 v1 h
set_option maxRecDepth 100000 in
theorem t_93 {v1 : Int32} {h : Hp} {r : Int32 × Hp} (e : S_93 v1 h = some r) : CI 8 93 [.ref 0, .int v1] h (fun x g => x = r.1 ∧ g = r.2) := by
  refine C.of mo_93 (Nat.le_of_ble_eq_true rfl) (fun X hq => ?_)
  exact r_93_0 (Nat.le_refl _) (hq _ _ ⟨_, rfl, rfl, rfl⟩) e
/-! 95 PlayedTruth$Ahead.trueNight(I)I -/
noncomputable def R_95_78 (h : Hp) : Option (Int32 × Hp) := some (((-3)), h)
theorem r_95_78 {X : GX} {d : Nat} {r : Int32 × Hp} (hd : 6 ≤ d) (hq : RtX X (some (.int r.1)) r.2) {h : Hp} (e : R_95_78 h = some r) : G X d 95 78 [none, none, none, none] [] h := by
  unfold R_95_78 at e
  rw [← Option.some.inj e] at hq
  exact k_95_78 hq
noncomputable def R_95_71 (v2 : Nat) (h : Hp) : Option (Int32 × Hp) := gd (sh v2 = (1, 3)) (some ((h v2 3), h))
theorem r_95_71 {X : GX} {d : Nat} {r : Int32 × Hp} (hd : 6 ≤ d) (hq : RtX X (some (.int r.1)) r.2) {h : Hp} {v2 : Nat} (e : R_95_71 v2 h = some r) : G X d 95 71 [none, none, some (.ref v2), none] [] h := by
  unfold R_95_71 at e
  have g := gd_s e; clear e; obtain ⟨o0, e⟩ := g
  rw [← Option.some.inj e] at hq
  exact k_95_71 o0 hq
noncomputable def R_95_67 (v1 : Int32) (v2 : Nat) (s0 : Int32) (h : Hp) : Option (Int32 × Hp) := if s0 < v1 then R_95_78 h else R_95_71 v2 h
theorem r_95_67 {X : GX} {d : Nat} {r : Int32 × Hp} (hd : 6 ≤ d) (hq : RtX X (some (.int r.1)) r.2) {h : Hp} {v1 : Int32} {v2 : Nat} {s0 : Int32} (e : R_95_67 v1 v2 s0 h = some r) : G X d 95 67 [none, some (.int v1), some (.ref v2), none] [.int s0] h := by
  unfold R_95_67 at e
  refine k_95_67 (fun c => ?_) (fun c => ?_)
  · rw [if_pos c] at e; exact r_95_78 hd hq e
  · rw [if_neg c] at e; exact r_95_71 hd hq e
noncomputable def R_95_59 (v1 : Int32) (v2 : Nat) (h : Hp) : Option (Int32 × Hp) := bndI (S_40 v2 h) (R_95_67 v1 v2)
theorem r_95_59 {X : GX} {d : Nat} {r : Int32 × Hp} (hd : 6 ≤ d) (hq : RtX X (some (.int r.1)) r.2) {h : Hp} {v1 : Int32} {v2 : Nat} (e : R_95_59 v1 v2 h = some r) : G X d 95 59 [some (.ref 31), some (.int v1), some (.ref v2), none] [] h := by
  unfold R_95_59 at e
  obtain ⟨x, h2, e1, e2⟩ := bndI_s e
  refine k_95_59 (by omega) (t_40 e1) ?_
  rintro _ _ ⟨rfl, rfl⟩
  exact r_95_67 hd hq e2
noncomputable def R_95_52 (rec_7 : Int32 → Nat → Int32 → Hp → Option (Int32 × Hp)) (v1 : Int32) (v2 : Nat) (v3 : Int32) (s0 : Int32) (h : Hp) : Option (Int32 × Hp) := rec_7 v1 v2 (v3 + 1) h
theorem r_95_52 {X : GX} {d : Nat} {r : Int32 × Hp} (hd : 6 ≤ d) (hq : RtX X (some (.int r.1)) r.2) {rec_7 : Int32 → Nat → Int32 → Hp → Option (Int32 × Hp)} (hr_7 : ∀ {v1 : Int32} {v2 : Nat} {v3 : Int32} {h : Hp}, rec_7 v1 v2 v3 h = some r → G X d 95 7 [some (.ref 31), some (.int v1), some (.ref v2), some (.int v3)] [] h) {h : Hp} {v1 : Int32} {v2 : Nat} {v3 : Int32} {s0 : Int32} (e : R_95_52 rec_7 v1 v2 v3 s0 h = some r) : G X d 95 52 [some (.ref 31), some (.int v1), some (.ref v2), some (.int v3)] [.int s0] h := by
  unfold R_95_52 at e
  exact k_95_52 (hr_7 e)
noncomputable def R_95_49 (rec_7 : Int32 → Nat → Int32 → Hp → Option (Int32 × Hp)) (v1 : Int32) (v2 : Nat) (v3 : Int32) (s1 : Nat) (s2 : Nat) (s0 : Int32) (h : Hp) : Option (Int32 × Hp) := gd (sh s2 = (1, 6) ∧ s2 = 1) (bndI (S_81 s1 s0 h) (R_95_52 rec_7 v1 v2 v3))
theorem r_95_49 {X : GX} {d : Nat} {r : Int32 × Hp} (hd : 6 ≤ d) (hq : RtX X (some (.int r.1)) r.2) {rec_7 : Int32 → Nat → Int32 → Hp → Option (Int32 × Hp)} (hr_7 : ∀ {v1 : Int32} {v2 : Nat} {v3 : Int32} {h : Hp}, rec_7 v1 v2 v3 h = some r → G X d 95 7 [some (.ref 31), some (.int v1), some (.ref v2), some (.int v3)] [] h) {h : Hp} {v1 : Int32} {v2 : Nat} {v3 : Int32} {s1 : Nat} {s2 : Nat} {s0 : Int32} (e : R_95_49 rec_7 v1 v2 v3 s1 s2 s0 h = some r) : G X d 95 49 [some (.ref 31), some (.int v1), some (.ref v2), some (.int v3)] [.int s0, .ref s1, .ref s2] h := by
  unfold R_95_49 at e
  have g := gd_s e; clear e; obtain ⟨⟨o0, q0⟩, e⟩ := g
  subst q0
  obtain ⟨x, h2, e1, e2⟩ := bndI_s e
  refine k_95_49 o0 (by omega) (t_81 e1) ?_
  rintro _ _ ⟨rfl, rfl⟩
  exact r_95_52 hd hq hr_7 e2
noncomputable def R_95_36 (rec_7 : Int32 → Nat → Int32 → Hp → Option (Int32 × Hp)) (v1 : Int32) (v2 : Nat) (v3 : Int32) (h : Hp) : Option (Int32 × Hp) := bndI (S_80 v2 h) (R_95_49 rec_7 v1 v2 v3 v2 1)
theorem r_95_36 {X : GX} {d : Nat} {r : Int32 × Hp} (hd : 6 ≤ d) (hq : RtX X (some (.int r.1)) r.2) {rec_7 : Int32 → Nat → Int32 → Hp → Option (Int32 × Hp)} (hr_7 : ∀ {v1 : Int32} {v2 : Nat} {v3 : Int32} {h : Hp}, rec_7 v1 v2 v3 h = some r → G X d 95 7 [some (.ref 31), some (.int v1), some (.ref v2), some (.int v3)] [] h) {h : Hp} {v1 : Int32} {v2 : Nat} {v3 : Int32} (e : R_95_36 rec_7 v1 v2 v3 h = some r) : G X d 95 36 [some (.ref 31), some (.int v1), some (.ref v2), some (.int v3)] [] h := by
  unfold R_95_36 at e
  obtain ⟨x, h2, e1, e2⟩ := bndI_s e
  refine k_95_36 (by omega) (t_80 e1) ?_
  rintro _ _ ⟨rfl, rfl⟩
  exact r_95_49 hd hq hr_7 e2
noncomputable def R_95_33 (rec_7 : Int32 → Nat → Int32 → Hp → Option (Int32 × Hp)) (v1 : Int32) (v2 : Nat) (v3 : Int32) (s0 : Int32) (h : Hp) : Option (Int32 × Hp) := if s0 = 0 then R_95_36 rec_7 v1 v2 v3 h else R_95_59 v1 v2 h
theorem r_95_33 {X : GX} {d : Nat} {r : Int32 × Hp} (hd : 6 ≤ d) (hq : RtX X (some (.int r.1)) r.2) {rec_7 : Int32 → Nat → Int32 → Hp → Option (Int32 × Hp)} (hr_7 : ∀ {v1 : Int32} {v2 : Nat} {v3 : Int32} {h : Hp}, rec_7 v1 v2 v3 h = some r → G X d 95 7 [some (.ref 31), some (.int v1), some (.ref v2), some (.int v3)] [] h) {h : Hp} {v1 : Int32} {v2 : Nat} {v3 : Int32} {s0 : Int32} (e : R_95_33 rec_7 v1 v2 v3 s0 h = some r) : G X d 95 33 [some (.ref 31), some (.int v1), some (.ref v2), some (.int v3)] [.int s0] h := by
  unfold R_95_33 at e
  refine k_95_33 (fun c => ?_) (fun c => ?_)
  · rw [if_neg c] at e; exact r_95_59 hd hq e
  · rw [if_pos c] at e; exact r_95_36 hd hq hr_7 e
noncomputable def R_95_25 (rec_7 : Int32 → Nat → Int32 → Hp → Option (Int32 × Hp)) (v1 : Int32) (v2 : Nat) (v3 : Int32) (h : Hp) : Option (Int32 × Hp) := bndI (S_38 v2 h) (R_95_33 rec_7 v1 v2 v3)
theorem r_95_25 {X : GX} {d : Nat} {r : Int32 × Hp} (hd : 6 ≤ d) (hq : RtX X (some (.int r.1)) r.2) {rec_7 : Int32 → Nat → Int32 → Hp → Option (Int32 × Hp)} (hr_7 : ∀ {v1 : Int32} {v2 : Nat} {v3 : Int32} {h : Hp}, rec_7 v1 v2 v3 h = some r → G X d 95 7 [some (.ref 31), some (.int v1), some (.ref v2), some (.int v3)] [] h) {h : Hp} {v1 : Int32} {v2 : Nat} {v3 : Int32} (e : R_95_25 rec_7 v1 v2 v3 h = some r) : G X d 95 25 [some (.ref 31), some (.int v1), some (.ref v2), some (.int v3)] [] h := by
  unfold R_95_25 at e
  obtain ⟨x, h2, e1, e2⟩ := bndI_s e
  refine k_95_25 (by omega) (t_38 e1) ?_
  rintro _ _ ⟨rfl, rfl⟩
  exact r_95_33 hd hq hr_7 e2
noncomputable def R_95_21 (rec_7 : Int32 → Nat → Int32 → Hp → Option (Int32 × Hp)) (v1 : Int32) (v2 : Nat) (v3 : Int32) (s0 : Int32) (h : Hp) : Option (Int32 × Hp) := if v1 ≤ s0 then R_95_59 v1 v2 h else R_95_25 rec_7 v1 v2 v3 h
theorem r_95_21 {X : GX} {d : Nat} {r : Int32 × Hp} (hd : 6 ≤ d) (hq : RtX X (some (.int r.1)) r.2) {rec_7 : Int32 → Nat → Int32 → Hp → Option (Int32 × Hp)} (hr_7 : ∀ {v1 : Int32} {v2 : Nat} {v3 : Int32} {h : Hp}, rec_7 v1 v2 v3 h = some r → G X d 95 7 [some (.ref 31), some (.int v1), some (.ref v2), some (.int v3)] [] h) {h : Hp} {v1 : Int32} {v2 : Nat} {v3 : Int32} {s0 : Int32} (e : R_95_21 rec_7 v1 v2 v3 s0 h = some r) : G X d 95 21 [some (.ref 31), some (.int v1), some (.ref v2), some (.int v3)] [.int s0] h := by
  unfold R_95_21 at e
  refine k_95_21 (fun c => ?_) (fun c => ?_)
  · rw [if_pos c] at e; exact r_95_59 hd hq e
  · rw [if_neg c] at e; exact r_95_25 hd hq hr_7 e
noncomputable def R_95_13 (rec_7 : Int32 → Nat → Int32 → Hp → Option (Int32 × Hp)) (v1 : Int32) (v2 : Nat) (v3 : Int32) (h : Hp) : Option (Int32 × Hp) := bndI (S_40 v2 h) (R_95_21 rec_7 v1 v2 v3)
theorem r_95_13 {X : GX} {d : Nat} {r : Int32 × Hp} (hd : 6 ≤ d) (hq : RtX X (some (.int r.1)) r.2) {rec_7 : Int32 → Nat → Int32 → Hp → Option (Int32 × Hp)} (hr_7 : ∀ {v1 : Int32} {v2 : Nat} {v3 : Int32} {h : Hp}, rec_7 v1 v2 v3 h = some r → G X d 95 7 [some (.ref 31), some (.int v1), some (.ref v2), some (.int v3)] [] h) {h : Hp} {v1 : Int32} {v2 : Nat} {v3 : Int32} (e : R_95_13 rec_7 v1 v2 v3 h = some r) : G X d 95 13 [some (.ref 31), some (.int v1), some (.ref v2), some (.int v3)] [] h := by
  unfold R_95_13 at e
  obtain ⟨x, h2, e1, e2⟩ := bndI_s e
  refine k_95_13 (by omega) (t_40 e1) ?_
  rintro _ _ ⟨rfl, rfl⟩
  exact r_95_21 hd hq hr_7 e2
noncomputable def R_95_7 (rec_7 : Int32 → Nat → Int32 → Hp → Option (Int32 × Hp)) (v1 : Int32) (v2 : Nat) (v3 : Int32) (h : Hp) : Option (Int32 × Hp) := if 16 ≤ v3 then R_95_59 v1 v2 h else R_95_13 rec_7 v1 v2 v3 h
theorem r_95_7 {X : GX} {d : Nat} {r : Int32 × Hp} (hd : 6 ≤ d) (hq : RtX X (some (.int r.1)) r.2) {rec_7 : Int32 → Nat → Int32 → Hp → Option (Int32 × Hp)} (hr_7 : ∀ {v1 : Int32} {v2 : Nat} {v3 : Int32} {h : Hp}, rec_7 v1 v2 v3 h = some r → G X d 95 7 [some (.ref 31), some (.int v1), some (.ref v2), some (.int v3)] [] h) {h : Hp} {v1 : Int32} {v2 : Nat} {v3 : Int32} (e : R_95_7 rec_7 v1 v2 v3 h = some r) : G X d 95 7 [some (.ref 31), some (.int v1), some (.ref v2), some (.int v3)] [] h := by
  unfold R_95_7 at e
  refine k_95_7 (fun c => ?_) (fun c => ?_)
  · rw [if_pos c] at e; exact r_95_59 hd hq e
  · rw [if_neg c] at e; exact r_95_13 hd hq hr_7 e
noncomputable def H_95_7 : Nat → Int32 → Nat → Int32 → Hp → Option (Int32 × Hp)
  | 0, _, _, _, _ => none
  | n + 1, v1, v2, v3, h => R_95_7 (H_95_7 n) v1 v2 v3 h
theorem h_95_7 {X : GX} {d : Nat} {r : Int32 × Hp} (hd : 6 ≤ d) (hq : RtX X (some (.int r.1)) r.2) {n : Nat} {h : Hp} {v1 : Int32} {v2 : Nat} {v3 : Int32} (e : H_95_7 n v1 v2 v3 h = some r) : G X d 95 7 [some (.ref 31), some (.int v1), some (.ref v2), some (.int v3)] [] h := by
  induction n generalizing v1 v2 v3 h with
  | zero => cases e
  | succ n ih => exact r_95_7 hd hq (fun e => ih e) e
noncomputable def R_95_4 (v1 : Int32) (s0 : Nat) (h : Hp) : Option (Int32 × Hp) := H_95_7 fuL v1 s0 0 h
theorem r_95_4 {X : GX} {d : Nat} {r : Int32 × Hp} (hd : 6 ≤ d) (hq : RtX X (some (.int r.1)) r.2) {h : Hp} {v1 : Int32} {s0 : Nat} (e : R_95_4 v1 s0 h = some r) : G X d 95 4 [some (.ref 31), some (.int v1), none, none] [.ref s0] h := by
  unfold R_95_4 at e
  exact k_95_4 (h_95_7 hd hq e)
noncomputable def R_95_0 (v1 : Int32) (h : Hp) : Option (Int32 × Hp) := bndR (S_87 h) (R_95_4 v1)
theorem r_95_0 {X : GX} {d : Nat} {r : Int32 × Hp} (hd : 6 ≤ d) (hq : RtX X (some (.int r.1)) r.2) {h : Hp} {v1 : Int32} (e : R_95_0 v1 h = some r) : G X d 95 0 [some (.ref 31), some (.int v1), none, none] [] h := by
  unfold R_95_0 at e
  obtain ⟨x, h2, e1, e2⟩ := bndR_s e
  refine k_95_0 (by omega) (t_87 e1) ?_
  rintro _ _ ⟨rfl, rfl⟩
  exact r_95_4 hd hq e2
noncomputable def S_95 (v1 : Int32) (h : Hp) : Option (Int32 × Hp) := R_95_0 v1 h
set_option maxRecDepth 100000 in
theorem t_95 {v1 : Int32} {h : Hp} {r : Int32 × Hp} (e : S_95 v1 h = some r) : CI 6 95 [.ref 31, .int v1] h (fun x g => x = r.1 ∧ g = r.2) := by
  refine C.of mo_95 (Nat.le_of_ble_eq_true rfl) (fun X hq => ?_)
  exact r_95_0 (Nat.le_refl _) (hq _ _ ⟨_, rfl, rfl, rfl⟩) e
/-! 94 PlayedTruth.truth(I)I -/
noncomputable def R_94_22 (h : Hp) : Option (Int32 × Hp) := some (((-1)), h)
theorem r_94_22 {X : GX} {d : Nat} {r : Int32 × Hp} (hd : 7 ≤ d) (hq : RtX X (some (.int r.1)) r.2) {h : Hp} (e : R_94_22 h = some r) : G X d 94 22 [none, none] [] h := by
  unfold R_94_22 at e
  rw [← Option.some.inj e] at hq
  exact k_94_22 hq
noncomputable def R_94_19 (s0 : Int32) (h : Hp) : Option (Int32 × Hp) := some (s0, h)
theorem r_94_19 {X : GX} {d : Nat} {r : Int32 × Hp} (hd : 7 ≤ d) (hq : RtX X (some (.int r.1)) r.2) {h : Hp} {s0 : Int32} (e : R_94_19 s0 h = some r) : G X d 94 19 [none, none] [.int s0] h := by
  unfold R_94_19 at e
  rw [← Option.some.inj e] at hq
  exact k_94_19 hq
noncomputable def R_94_11 (v1 : Int32) (h : Hp) : Option (Int32 × Hp) := bndI (S_95 v1 h) (R_94_19)
theorem r_94_11 {X : GX} {d : Nat} {r : Int32 × Hp} (hd : 7 ≤ d) (hq : RtX X (some (.int r.1)) r.2) {h : Hp} {v1 : Int32} (e : R_94_11 v1 h = some r) : G X d 94 11 [some (.ref 0), some (.int v1)] [] h := by
  unfold R_94_11 at e
  obtain ⟨x, h2, e1, e2⟩ := bndI_s e
  refine k_94_11 (by omega) (t_95 e1) ?_
  rintro _ _ ⟨rfl, rfl⟩
  exact r_94_19 hd hq e2
noncomputable def R_94_8 (v1 : Int32) (s0 : Int32) (h : Hp) : Option (Int32 × Hp) := if s0 = 0 then R_94_22 h else R_94_11 v1 h
theorem r_94_8 {X : GX} {d : Nat} {r : Int32 × Hp} (hd : 7 ≤ d) (hq : RtX X (some (.int r.1)) r.2) {h : Hp} {v1 : Int32} {s0 : Int32} (e : R_94_8 v1 s0 h = some r) : G X d 94 8 [some (.ref 0), some (.int v1)] [.int s0] h := by
  unfold R_94_8 at e
  refine k_94_8 (fun c => ?_) (fun c => ?_)
  · rw [if_pos c] at e; exact r_94_22 hd hq e
  · rw [if_neg c] at e; exact r_94_11 hd hq e
noncomputable def R_94_0 (v1 : Int32) (h : Hp) : Option (Int32 × Hp) := bndI (S_11 v1 0 594 h) (R_94_8 v1)
theorem r_94_0 {X : GX} {d : Nat} {r : Int32 × Hp} (hd : 7 ≤ d) (hq : RtX X (some (.int r.1)) r.2) {h : Hp} {v1 : Int32} (e : R_94_0 v1 h = some r) : G X d 94 0 [some (.ref 0), some (.int v1)] [] h := by
  unfold R_94_0 at e
  obtain ⟨x, h2, e1, e2⟩ := bndI_s e
  refine k_94_0 (by omega) (t_11 e1) ?_
  rintro _ _ ⟨rfl, rfl⟩
  exact r_94_8 hd hq e2
noncomputable def S_94 (v1 : Int32) (h : Hp) : Option (Int32 × Hp) := R_94_0 v1 h
set_option maxRecDepth 100000 in
theorem t_94 {v1 : Int32} {h : Hp} {r : Int32 × Hp} (e : S_94 v1 h = some r) : CI 7 94 [.ref 0, .int v1] h (fun x g => x = r.1 ∧ g = r.2) := by
  refine C.of mo_94 (Nat.le_of_ble_eq_true rfl) (fun X hq => ?_)
  exact r_94_0 (Nat.le_refl _) (hq _ _ ⟨_, rfl, rfl, rfl⟩) e
/-! 97 PlayedTruth$Stage.scenesIn(I)I -/
noncomputable def R_97_34 (v2 : Int32) (h : Hp) : Option (Int32 × Hp) := some (v2, h)
theorem r_97_34 {X : GX} {d : Nat} {r : Int32 × Hp} (hd : 1 ≤ d) (hq : RtX X (some (.int r.1)) r.2) {h : Hp} {v2 : Int32} (e : R_97_34 v2 h = some r) : G X d 97 34 [none, none, some (.int v2), none] [] h := by
  unfold R_97_34 at e
  rw [← Option.some.inj e] at hq
  exact k_97_34 hq
noncomputable def R_97_28 (rec_4 : Int32 → Int32 → Int32 → Hp → Option (Int32 × Hp)) (v1 : Int32) (v2 : Int32) (v3 : Int32) (h : Hp) : Option (Int32 × Hp) := rec_4 v1 v2 (v3 + 1) h
theorem r_97_28 {X : GX} {d : Nat} {r : Int32 × Hp} (hd : 1 ≤ d) (hq : RtX X (some (.int r.1)) r.2) {rec_4 : Int32 → Int32 → Int32 → Hp → Option (Int32 × Hp)} (hr_4 : ∀ {v1 : Int32} {v2 : Int32} {v3 : Int32} {h : Hp}, rec_4 v1 v2 v3 h = some r → G X d 97 4 [some (.ref 1), some (.int v1), some (.int v2), some (.int v3)] [] h) {h : Hp} {v1 : Int32} {v2 : Int32} {v3 : Int32} (e : R_97_28 rec_4 v1 v2 v3 h = some r) : G X d 97 28 [some (.ref 1), some (.int v1), some (.int v2), some (.int v3)] [] h := by
  unfold R_97_28 at e
  exact k_97_28 (hr_4 e)
noncomputable def R_97_22 (rec_4 : Int32 → Int32 → Int32 → Hp → Option (Int32 × Hp)) (v1 : Int32) (v2 : Int32) (v3 : Int32) (h : Hp) : Option (Int32 × Hp) := rec_4 v1 (v2 ||| (1 <<< (v3 &&& 31))) (v3 + 1) h
theorem r_97_22 {X : GX} {d : Nat} {r : Int32 × Hp} (hd : 1 ≤ d) (hq : RtX X (some (.int r.1)) r.2) {rec_4 : Int32 → Int32 → Int32 → Hp → Option (Int32 × Hp)} (hr_4 : ∀ {v1 : Int32} {v2 : Int32} {v3 : Int32} {h : Hp}, rec_4 v1 v2 v3 h = some r → G X d 97 4 [some (.ref 1), some (.int v1), some (.int v2), some (.int v3)] [] h) {h : Hp} {v1 : Int32} {v2 : Int32} {v3 : Int32} (e : R_97_22 rec_4 v1 v2 v3 h = some r) : G X d 97 22 [some (.ref 1), some (.int v1), some (.int v2), some (.int v3)] [] h := by
  unfold R_97_22 at e
  exact k_97_22 (hr_4 e)
noncomputable def R_97_12 (rec_4 : Int32 → Int32 → Int32 → Hp → Option (Int32 × Hp)) (v1 : Int32) (v2 : Int32) (v3 : Int32) (h : Hp) : Option (Int32 × Hp) := gd (IA 3 v3) (if (h 3 (Int32.toNatClampNeg v3)) = v1 then R_97_22 rec_4 v1 v2 v3 h else R_97_28 rec_4 v1 v2 v3 h)
theorem r_97_12 {X : GX} {d : Nat} {r : Int32 × Hp} (hd : 1 ≤ d) (hq : RtX X (some (.int r.1)) r.2) {rec_4 : Int32 → Int32 → Int32 → Hp → Option (Int32 × Hp)} (hr_4 : ∀ {v1 : Int32} {v2 : Int32} {v3 : Int32} {h : Hp}, rec_4 v1 v2 v3 h = some r → G X d 97 4 [some (.ref 1), some (.int v1), some (.int v2), some (.int v3)] [] h) {h : Hp} {v1 : Int32} {v2 : Int32} {v3 : Int32} (e : R_97_12 rec_4 v1 v2 v3 h = some r) : G X d 97 12 [some (.ref 1), some (.int v1), some (.int v2), some (.int v3)] [] h := by
  unfold R_97_12 at e
  have g := gd_s e; clear e; obtain ⟨b0, e⟩ := g
  refine k_97_12 b0 (fun c => ?_) (fun c => ?_)
  · rw [if_neg c] at e; exact r_97_28 hd hq hr_4 e
  · rw [if_pos c] at e; exact r_97_22 hd hq hr_4 e
noncomputable def R_97_4 (rec_4 : Int32 → Int32 → Int32 → Hp → Option (Int32 × Hp)) (v1 : Int32) (v2 : Int32) (v3 : Int32) (h : Hp) : Option (Int32 × Hp) := if (h 1 7) ≤ v3 then R_97_34 v2 h else R_97_12 rec_4 v1 v2 v3 h
theorem r_97_4 {X : GX} {d : Nat} {r : Int32 × Hp} (hd : 1 ≤ d) (hq : RtX X (some (.int r.1)) r.2) {rec_4 : Int32 → Int32 → Int32 → Hp → Option (Int32 × Hp)} (hr_4 : ∀ {v1 : Int32} {v2 : Int32} {v3 : Int32} {h : Hp}, rec_4 v1 v2 v3 h = some r → G X d 97 4 [some (.ref 1), some (.int v1), some (.int v2), some (.int v3)] [] h) {h : Hp} {v1 : Int32} {v2 : Int32} {v3 : Int32} (e : R_97_4 rec_4 v1 v2 v3 h = some r) : G X d 97 4 [some (.ref 1), some (.int v1), some (.int v2), some (.int v3)] [] h := by
  unfold R_97_4 at e
  refine k_97_4 (fun c => ?_) (fun c => ?_)
  · rw [if_pos c] at e; exact r_97_34 hd hq e
  · rw [if_neg c] at e; exact r_97_12 hd hq hr_4 e
noncomputable def H_97_4 : Nat → Int32 → Int32 → Int32 → Hp → Option (Int32 × Hp)
  | 0, _, _, _, _ => none
  | n + 1, v1, v2, v3, h => R_97_4 (H_97_4 n) v1 v2 v3 h
theorem h_97_4 {X : GX} {d : Nat} {r : Int32 × Hp} (hd : 1 ≤ d) (hq : RtX X (some (.int r.1)) r.2) {n : Nat} {h : Hp} {v1 : Int32} {v2 : Int32} {v3 : Int32} (e : H_97_4 n v1 v2 v3 h = some r) : G X d 97 4 [some (.ref 1), some (.int v1), some (.int v2), some (.int v3)] [] h := by
  induction n generalizing v1 v2 v3 h with
  | zero => cases e
  | succ n ih => exact r_97_4 hd hq (fun e => ih e) e
noncomputable def R_97_0 (v1 : Int32) (h : Hp) : Option (Int32 × Hp) := H_97_4 fuL v1 0 0 h
theorem r_97_0 {X : GX} {d : Nat} {r : Int32 × Hp} (hd : 1 ≤ d) (hq : RtX X (some (.int r.1)) r.2) {h : Hp} {v1 : Int32} (e : R_97_0 v1 h = some r) : G X d 97 0 [some (.ref 1), some (.int v1), none, none] [] h := by
  unfold R_97_0 at e
  exact k_97_0 (h_97_4 hd hq e)
noncomputable def S_97 (v1 : Int32) (h : Hp) : Option (Int32 × Hp) := R_97_0 v1 h
set_option maxRecDepth 100000 in
theorem t_97 {v1 : Int32} {h : Hp} {r : Int32 × Hp} (e : S_97 v1 h = some r) : CI 1 97 [.ref 1, .int v1] h (fun x g => x = r.1 ∧ g = r.2) := by
  refine C.of mo_97 (Nat.le_of_ble_eq_true rfl) (fun X hq => ?_)
  exact r_97_0 (Nat.le_refl _) (hq _ _ ⟨_, rfl, rfl, rfl⟩) e
/-! 96 PlayedTruth.props(I)I -/
noncomputable def R_96_59 (v2 : Int32) (h : Hp) : Option (Int32 × Hp) := some (v2, h)
theorem r_96_59 {X : GX} {d : Nat} {r : Int32 × Hp} (hd : 3 ≤ d) (hq : RtX X (some (.int r.1)) r.2) {h : Hp} {v2 : Int32} (e : R_96_59 v2 h = some r) : G X d 96 59 [none, none, some (.int v2), none, none] [] h := by
  unfold R_96_59 at e
  rw [← Option.some.inj e] at hq
  exact k_96_59 hq
noncomputable def R_96_48 (rec_26 : Int32 → Int32 → Hp → Option (Int32 × Hp)) (v2 : Int32) (v3 : Int32) (v4 : Int32) (h : Hp) : Option (Int32 × Hp) := rec_26 (v2 ||| v4) (v3 + (-1)) h
theorem r_96_48 {X : GX} {d : Nat} {r : Int32 × Hp} (hd : 3 ≤ d) (hq : RtX X (some (.int r.1)) r.2) {rec_26 : Int32 → Int32 → Hp → Option (Int32 × Hp)} (hr_26 : ∀ {v2 : Int32} {v3 : Int32} {h : Hp}, rec_26 v2 v3 h = some r → G X d 96 26 [some (.ref 0), none, some (.int v2), some (.int v3), none] [] h) {h : Hp} {v2 : Int32} {v3 : Int32} {v4 : Int32} (e : R_96_48 rec_26 v2 v3 v4 h = some r) : G X d 96 48 [some (.ref 0), none, some (.int v2), some (.int v3), some (.int v4)] [] h := by
  unfold R_96_48 at e
  exact k_96_48 (hr_26 e)
noncomputable def R_96_45 (v2 : Int32) (h : Hp) : Option (Int32 × Hp) := some (v2, h)
theorem r_96_45 {X : GX} {d : Nat} {r : Int32 × Hp} (hd : 3 ≤ d) (hq : RtX X (some (.int r.1)) r.2) {h : Hp} {v2 : Int32} (e : R_96_45 v2 h = some r) : G X d 96 45 [none, none, some (.int v2), none, none] [] h := by
  unfold R_96_45 at e
  rw [← Option.some.inj e] at hq
  exact k_96_45 hq
noncomputable def R_96_38 (rec_26 : Int32 → Int32 → Hp → Option (Int32 × Hp)) (v2 : Int32) (v3 : Int32) (s0 : Int32) (h : Hp) : Option (Int32 × Hp) := if s0 = 0 then R_96_45 v2 h else R_96_48 rec_26 v2 v3 s0 h
theorem r_96_38 {X : GX} {d : Nat} {r : Int32 × Hp} (hd : 3 ≤ d) (hq : RtX X (some (.int r.1)) r.2) {rec_26 : Int32 → Int32 → Hp → Option (Int32 × Hp)} (hr_26 : ∀ {v2 : Int32} {v3 : Int32} {h : Hp}, rec_26 v2 v3 h = some r → G X d 96 26 [some (.ref 0), none, some (.int v2), some (.int v3), none] [] h) {h : Hp} {v2 : Int32} {v3 : Int32} {s0 : Int32} (e : R_96_38 rec_26 v2 v3 s0 h = some r) : G X d 96 38 [some (.ref 0), none, some (.int v2), some (.int v3), none] [.int s0] h := by
  unfold R_96_38 at e
  refine k_96_38 (fun c => ?_) (fun c => ?_)
  · rw [if_neg c] at e; exact r_96_48 hd hq hr_26 e
  · rw [if_pos c] at e; exact r_96_45 hd hq e
noncomputable def R_96_30 (rec_26 : Int32 → Int32 → Hp → Option (Int32 × Hp)) (v2 : Int32) (v3 : Int32) (h : Hp) : Option (Int32 × Hp) := bndI (S_97 v3 h) (R_96_38 rec_26 v2 v3)
theorem r_96_30 {X : GX} {d : Nat} {r : Int32 × Hp} (hd : 3 ≤ d) (hq : RtX X (some (.int r.1)) r.2) {rec_26 : Int32 → Int32 → Hp → Option (Int32 × Hp)} (hr_26 : ∀ {v2 : Int32} {v3 : Int32} {h : Hp}, rec_26 v2 v3 h = some r → G X d 96 26 [some (.ref 0), none, some (.int v2), some (.int v3), none] [] h) {h : Hp} {v2 : Int32} {v3 : Int32} (e : R_96_30 rec_26 v2 v3 h = some r) : G X d 96 30 [some (.ref 0), none, some (.int v2), some (.int v3), none] [] h := by
  unfold R_96_30 at e
  obtain ⟨x, h2, e1, e2⟩ := bndI_s e
  refine k_96_30 (by omega) (t_97 e1) ?_
  rintro _ _ ⟨rfl, rfl⟩
  exact r_96_38 hd hq hr_26 e2
noncomputable def R_96_26 (rec_26 : Int32 → Int32 → Hp → Option (Int32 × Hp)) (v2 : Int32) (v3 : Int32) (h : Hp) : Option (Int32 × Hp) := if v3 < 0 then R_96_59 v2 h else R_96_30 rec_26 v2 v3 h
theorem r_96_26 {X : GX} {d : Nat} {r : Int32 × Hp} (hd : 3 ≤ d) (hq : RtX X (some (.int r.1)) r.2) {rec_26 : Int32 → Int32 → Hp → Option (Int32 × Hp)} (hr_26 : ∀ {v2 : Int32} {v3 : Int32} {h : Hp}, rec_26 v2 v3 h = some r → G X d 96 26 [some (.ref 0), none, some (.int v2), some (.int v3), none] [] h) {h : Hp} {v2 : Int32} {v3 : Int32} (e : R_96_26 rec_26 v2 v3 h = some r) : G X d 96 26 [some (.ref 0), none, some (.int v2), some (.int v3), none] [] h := by
  unfold R_96_26 at e
  refine k_96_26 (fun c => ?_) (fun c => ?_)
  · rw [if_pos c] at e; exact r_96_59 hd hq e
  · rw [if_neg c] at e; exact r_96_30 hd hq hr_26 e
noncomputable def H_96_26 : Nat → Int32 → Int32 → Hp → Option (Int32 × Hp)
  | 0, _, _, _ => none
  | n + 1, v2, v3, h => R_96_26 (H_96_26 n) v2 v3 h
theorem h_96_26 {X : GX} {d : Nat} {r : Int32 × Hp} (hd : 3 ≤ d) (hq : RtX X (some (.int r.1)) r.2) {n : Nat} {h : Hp} {v2 : Int32} {v3 : Int32} (e : H_96_26 n v2 v3 h = some r) : G X d 96 26 [some (.ref 0), none, some (.int v2), some (.int v3), none] [] h := by
  induction n generalizing v2 v3 h with
  | zero => cases e
  | succ n ih => exact r_96_26 hd hq (fun e => ih e) e
noncomputable def R_96_10 (v1 : Int32) (h : Hp) : Option (Int32 × Hp) := gd (IA 3 v1) (H_96_26 fuL (1 <<< (v1 &&& 31)) ((h 3 (Int32.toNatClampNeg v1)) - 1) h)
theorem r_96_10 {X : GX} {d : Nat} {r : Int32 × Hp} (hd : 3 ≤ d) (hq : RtX X (some (.int r.1)) r.2) {h : Hp} {v1 : Int32} (e : R_96_10 v1 h = some r) : G X d 96 10 [some (.ref 0), some (.int v1), none, none, none] [] h := by
  unfold R_96_10 at e
  have g := gd_s e; clear e; obtain ⟨b0, e⟩ := g
  exact k_96_10 b0 (h_96_26 hd hq e)
noncomputable def R_96_8 (h : Hp) : Option (Int32 × Hp) := some (((-1)), h)
theorem r_96_8 {X : GX} {d : Nat} {r : Int32 × Hp} (hd : 3 ≤ d) (hq : RtX X (some (.int r.1)) r.2) {h : Hp} (e : R_96_8 h = some r) : G X d 96 8 [none, none, none, none, none] [] h := by
  unfold R_96_8 at e
  rw [← Option.some.inj e] at hq
  exact k_96_8 hq
noncomputable def R_96_5 (v1 : Int32) (s0 : Int32) (h : Hp) : Option (Int32 × Hp) := if s0 = 0 then R_96_8 h else R_96_10 v1 h
theorem r_96_5 {X : GX} {d : Nat} {r : Int32 × Hp} (hd : 3 ≤ d) (hq : RtX X (some (.int r.1)) r.2) {h : Hp} {v1 : Int32} {s0 : Int32} (e : R_96_5 v1 s0 h = some r) : G X d 96 5 [some (.ref 0), some (.int v1), none, none, none] [.int s0] h := by
  unfold R_96_5 at e
  refine k_96_5 (fun c => ?_) (fun c => ?_)
  · rw [if_neg c] at e; exact r_96_10 hd hq e
  · rw [if_pos c] at e; exact r_96_8 hd hq e
noncomputable def R_96_0 (v1 : Int32) (h : Hp) : Option (Int32 × Hp) := bndI (S_14 v1 h) (R_96_5 v1)
theorem r_96_0 {X : GX} {d : Nat} {r : Int32 × Hp} (hd : 3 ≤ d) (hq : RtX X (some (.int r.1)) r.2) {h : Hp} {v1 : Int32} (e : R_96_0 v1 h = some r) : G X d 96 0 [some (.ref 0), some (.int v1), none, none, none] [] h := by
  unfold R_96_0 at e
  obtain ⟨x, h2, e1, e2⟩ := bndI_s e
  refine k_96_0 (by omega) (t_14 e1) ?_
  rintro _ _ ⟨rfl, rfl⟩
  exact r_96_5 hd hq e2
noncomputable def S_96 (v1 : Int32) (h : Hp) : Option (Int32 × Hp) := R_96_0 v1 h
set_option maxRecDepth 100000 in
theorem t_96 {v1 : Int32} {h : Hp} {r : Int32 × Hp} (e : S_96 v1 h = some r) : CI 3 96 [.ref 0, .int v1] h (fun x g => x = r.1 ∧ g = r.2) := by
  refine C.of mo_96 (Nat.le_of_ble_eq_true rfl) (fun X hq => ?_)
  exact r_96_0 (Nat.le_refl _) (hq _ _ ⟨_, rfl, rfl, rfl⟩) e
/-! 102 PlayedTruth$Stage.areClose(LPlayedTruth$Moment;II)Z -/
noncomputable def R_102_16 (h : Hp) : Option (Int32 × Hp) := some (0, h)
theorem r_102_16 {X : GX} {d : Nat} {r : Int32 × Hp} (hd : 2 ≤ d) (hq : RtX X (some (.int r.1)) r.2) {h : Hp} (e : R_102_16 h = some r) : G X d 102 16 [none, none, none, none] [] h := by
  unfold R_102_16 at e
  rw [← Option.some.inj e] at hq
  exact k_102_16 hq
noncomputable def R_102_53 (h : Hp) : Option (Int32 × Hp) := some (1, h)
theorem r_102_53 {X : GX} {d : Nat} {r : Int32 × Hp} (hd : 2 ≤ d) (hq : RtX X (some (.int r.1)) r.2) {h : Hp} (e : R_102_53 h = some r) : G X d 102 53 [none, none, none, none] [] h := by
  unfold R_102_53 at e
  rw [← Option.some.inj e] at hq
  exact k_102_53 hq
noncomputable def R_102_57 (h : Hp) : Option (Int32 × Hp) := some (0, h)
theorem r_102_57 {X : GX} {d : Nat} {r : Int32 × Hp} (hd : 2 ≤ d) (hq : RtX X (some (.int r.1)) r.2) {h : Hp} (e : R_102_57 h = some r) : G X d 102 57 [none, none, none, none] [] h := by
  unfold R_102_57 at e
  rw [← Option.some.inj e] at hq
  exact k_102_57 hq
noncomputable def R_102_33 (v1 : Nat) (v2 : Int32) (v3 : Int32) (h : Hp) : Option (Int32 × Hp) := gd (sh v1 = (1, 3) ∧ IA (v1 + 1) v2 ∧ IA (v1 + 1) v3) (if 3 < (if 0 ≤ ((h (v1 + 1) (Int32.toNatClampNeg v2)) - (h (v1 + 1) (Int32.toNatClampNeg v3))) then ((h (v1 + 1) (Int32.toNatClampNeg v2)) - (h (v1 + 1) (Int32.toNatClampNeg v3))) else 0 - ((h (v1 + 1) (Int32.toNatClampNeg v2)) - (h (v1 + 1) (Int32.toNatClampNeg v3)))) then R_102_57 h else R_102_53 h)
theorem r_102_33 {X : GX} {d : Nat} {r : Int32 × Hp} (hd : 2 ≤ d) (hq : RtX X (some (.int r.1)) r.2) {h : Hp} {v1 : Nat} {v2 : Int32} {v3 : Int32} (e : R_102_33 v1 v2 v3 h = some r) : G X d 102 33 [none, some (.ref v1), some (.int v2), some (.int v3)] [] h := by
  unfold R_102_33 at e
  have g := gd_s e; clear e; obtain ⟨⟨o0, b1, b2⟩, e⟩ := g
  refine k_102_33 o0 b1 b2 (by omega) (fun c => ?_) (fun c => ?_)
  · rw [if_pos c] at e; exact r_102_57 hd hq e
  · rw [if_neg c] at e; exact r_102_53 hd hq e
noncomputable def R_102_18 (v1 : Nat) (v2 : Int32) (v3 : Int32) (h : Hp) : Option (Int32 × Hp) := gd (IA 3 v2 ∧ IA 3 v3) (if (h 3 (Int32.toNatClampNeg v2)) = (h 3 (Int32.toNatClampNeg v3)) then R_102_53 h else R_102_33 v1 v2 v3 h)
theorem r_102_18 {X : GX} {d : Nat} {r : Int32 × Hp} (hd : 2 ≤ d) (hq : RtX X (some (.int r.1)) r.2) {h : Hp} {v1 : Nat} {v2 : Int32} {v3 : Int32} (e : R_102_18 v1 v2 v3 h = some r) : G X d 102 18 [some (.ref 1), some (.ref v1), some (.int v2), some (.int v3)] [] h := by
  unfold R_102_18 at e
  have g := gd_s e; clear e; obtain ⟨⟨b0, b1⟩, e⟩ := g
  refine k_102_18 b0 b1 (fun c => ?_) (fun c => ?_)
  · rw [if_pos c] at e; exact r_102_53 hd hq e
  · rw [if_neg c] at e; exact r_102_33 hd hq e
noncomputable def R_102_13 (v1 : Nat) (v2 : Int32) (v3 : Int32) (s0 : Int32) (h : Hp) : Option (Int32 × Hp) := if s0 = 0 then R_102_18 v1 v2 v3 h else R_102_16 h
theorem r_102_13 {X : GX} {d : Nat} {r : Int32 × Hp} (hd : 2 ≤ d) (hq : RtX X (some (.int r.1)) r.2) {h : Hp} {v1 : Nat} {v2 : Int32} {v3 : Int32} {s0 : Int32} (e : R_102_13 v1 v2 v3 s0 h = some r) : G X d 102 13 [some (.ref 1), some (.ref v1), some (.int v2), some (.int v3)] [.int s0] h := by
  unfold R_102_13 at e
  refine k_102_13 (fun c => ?_) (fun c => ?_)
  · rw [if_pos c] at e; exact r_102_18 hd hq e
  · rw [if_neg c] at e; exact r_102_16 hd hq e
noncomputable def R_102_8 (v1 : Nat) (v2 : Int32) (v3 : Int32) (h : Hp) : Option (Int32 × Hp) := gd (sh v1 = (1, 3)) (bndI (S_15 v1 v3 h) (R_102_13 v1 v2 v3))
theorem r_102_8 {X : GX} {d : Nat} {r : Int32 × Hp} (hd : 2 ≤ d) (hq : RtX X (some (.int r.1)) r.2) {h : Hp} {v1 : Nat} {v2 : Int32} {v3 : Int32} (e : R_102_8 v1 v2 v3 h = some r) : G X d 102 8 [some (.ref 1), some (.ref v1), some (.int v2), some (.int v3)] [] h := by
  unfold R_102_8 at e
  have g := gd_s e; clear e; obtain ⟨o0, e⟩ := g
  obtain ⟨x, h2, e1, e2⟩ := bndI_s e
  refine k_102_8 o0 (by omega) (t_15 e1) ?_
  rintro _ _ ⟨rfl, rfl⟩
  exact r_102_13 hd hq e2
noncomputable def R_102_5 (v1 : Nat) (v2 : Int32) (v3 : Int32) (s0 : Int32) (h : Hp) : Option (Int32 × Hp) := if s0 = 0 then R_102_8 v1 v2 v3 h else R_102_16 h
theorem r_102_5 {X : GX} {d : Nat} {r : Int32 × Hp} (hd : 2 ≤ d) (hq : RtX X (some (.int r.1)) r.2) {h : Hp} {v1 : Nat} {v2 : Int32} {v3 : Int32} {s0 : Int32} (e : R_102_5 v1 v2 v3 s0 h = some r) : G X d 102 5 [some (.ref 1), some (.ref v1), some (.int v2), some (.int v3)] [.int s0] h := by
  unfold R_102_5 at e
  refine k_102_5 (fun c => ?_) (fun c => ?_)
  · rw [if_neg c] at e; exact r_102_16 hd hq e
  · rw [if_pos c] at e; exact r_102_8 hd hq e
noncomputable def R_102_0 (v1 : Nat) (v2 : Int32) (v3 : Int32) (h : Hp) : Option (Int32 × Hp) := gd (sh v1 = (1, 3)) (bndI (S_15 v1 v2 h) (R_102_5 v1 v2 v3))
theorem r_102_0 {X : GX} {d : Nat} {r : Int32 × Hp} (hd : 2 ≤ d) (hq : RtX X (some (.int r.1)) r.2) {h : Hp} {v1 : Nat} {v2 : Int32} {v3 : Int32} (e : R_102_0 v1 v2 v3 h = some r) : G X d 102 0 [some (.ref 1), some (.ref v1), some (.int v2), some (.int v3)] [] h := by
  unfold R_102_0 at e
  have g := gd_s e; clear e; obtain ⟨o0, e⟩ := g
  obtain ⟨x, h2, e1, e2⟩ := bndI_s e
  refine k_102_0 o0 (by omega) (t_15 e1) ?_
  rintro _ _ ⟨rfl, rfl⟩
  exact r_102_5 hd hq e2
noncomputable def S_102 (v1 : Nat) (v2 : Int32) (v3 : Int32) (h : Hp) : Option (Int32 × Hp) := R_102_0 v1 v2 v3 h
set_option maxRecDepth 100000 in
theorem t_102 {v1 : Nat} {v2 : Int32} {v3 : Int32} {h : Hp} {r : Int32 × Hp} (e : S_102 v1 v2 v3 h = some r) : CI 2 102 [.ref 1, .ref v1, .int v2, .int v3] h (fun x g => x = r.1 ∧ g = r.2) := by
  refine C.of mo_102 (Nat.le_of_ble_eq_true rfl) (fun X hq => ?_)
  exact r_102_0 (Nat.le_refl _) (hq _ _ ⟨_, rfl, rfl, rfl⟩) e
/-! 101 PlayedTruth.closeToAny(I)I -/
noncomputable def R_101_77 (v2 : Int32) (h : Hp) : Option (Int32 × Hp) := some (v2, h)
theorem r_101_77 {X : GX} {d : Nat} {r : Int32 × Hp} (hd : 3 ≤ d) (hq : RtX X (some (.int r.1)) r.2) {h : Hp} {v2 : Int32} (e : R_101_77 v2 h = some r) : G X d 101 77 [none, none, some (.int v2), none, none] [] h := by
  unfold R_101_77 at e
  rw [← Option.some.inj e] at hq
  exact k_101_77 hq
noncomputable def R_101_71 (rec_4 : Int32 → Int32 → Int32 → Hp → Option (Int32 × Hp)) (v1 : Int32) (v2 : Int32) (v3 : Int32) (h : Hp) : Option (Int32 × Hp) := rec_4 v1 v2 (v3 + 1) h
theorem r_101_71 {X : GX} {d : Nat} {r : Int32 × Hp} (hd : 3 ≤ d) (hq : RtX X (some (.int r.1)) r.2) {rec_4 : Int32 → Int32 → Int32 → Hp → Option (Int32 × Hp)} (hr_4 : ∀ {v1 : Int32} {v2 : Int32} {v3 : Int32} {h : Hp}, rec_4 v1 v2 v3 h = some r → G X d 101 4 [some (.ref 0), some (.int v1), some (.int v2), some (.int v3), none] [] h) {h : Hp} {v1 : Int32} {v2 : Int32} {v3 : Int32} (e : R_101_71 rec_4 v1 v2 v3 h = some r) : G X d 101 71 [some (.ref 0), some (.int v1), some (.int v2), some (.int v3), none] [] h := by
  unfold R_101_71 at e
  exact k_101_71 (hr_4 e)
noncomputable def R_101_65 (rec_4 : Int32 → Int32 → Int32 → Hp → Option (Int32 × Hp)) (rec_29 : Int32 → Int32 → Int32 → Int32 → Hp → Option (Int32 × Hp)) (v1 : Int32) (v2 : Int32) (v3 : Int32) (v4 : Int32) (h : Hp) : Option (Int32 × Hp) := rec_29 v1 v2 v3 (v4 + 1) h
theorem r_101_65 {X : GX} {d : Nat} {r : Int32 × Hp} (hd : 3 ≤ d) (hq : RtX X (some (.int r.1)) r.2) {rec_4 : Int32 → Int32 → Int32 → Hp → Option (Int32 × Hp)} {rec_29 : Int32 → Int32 → Int32 → Int32 → Hp → Option (Int32 × Hp)} (hr_4 : ∀ {v1 : Int32} {v2 : Int32} {v3 : Int32} {h : Hp}, rec_4 v1 v2 v3 h = some r → G X d 101 4 [some (.ref 0), some (.int v1), some (.int v2), some (.int v3), none] [] h) (hr_29 : ∀ {v1 : Int32} {v2 : Int32} {v3 : Int32} {v4 : Int32} {h : Hp}, rec_29 v1 v2 v3 v4 h = some r → G X d 101 29 [some (.ref 0), some (.int v1), some (.int v2), some (.int v3), some (.int v4)] [] h) {h : Hp} {v1 : Int32} {v2 : Int32} {v3 : Int32} {v4 : Int32} (e : R_101_65 rec_4 rec_29 v1 v2 v3 v4 h = some r) : G X d 101 65 [some (.ref 0), some (.int v1), some (.int v2), some (.int v3), some (.int v4)] [] h := by
  unfold R_101_65 at e
  exact k_101_65 (hr_29 e)
noncomputable def R_101_58 (rec_4 : Int32 → Int32 → Int32 → Hp → Option (Int32 × Hp)) (rec_29 : Int32 → Int32 → Int32 → Int32 → Hp → Option (Int32 × Hp)) (v1 : Int32) (v2 : Int32) (v3 : Int32) (v4 : Int32) (h : Hp) : Option (Int32 × Hp) := rec_29 v1 (v2 ||| (1 <<< (v4 &&& 31))) v3 (v4 + 1) h
theorem r_101_58 {X : GX} {d : Nat} {r : Int32 × Hp} (hd : 3 ≤ d) (hq : RtX X (some (.int r.1)) r.2) {rec_4 : Int32 → Int32 → Int32 → Hp → Option (Int32 × Hp)} {rec_29 : Int32 → Int32 → Int32 → Int32 → Hp → Option (Int32 × Hp)} (hr_4 : ∀ {v1 : Int32} {v2 : Int32} {v3 : Int32} {h : Hp}, rec_4 v1 v2 v3 h = some r → G X d 101 4 [some (.ref 0), some (.int v1), some (.int v2), some (.int v3), none] [] h) (hr_29 : ∀ {v1 : Int32} {v2 : Int32} {v3 : Int32} {v4 : Int32} {h : Hp}, rec_29 v1 v2 v3 v4 h = some r → G X d 101 29 [some (.ref 0), some (.int v1), some (.int v2), some (.int v3), some (.int v4)] [] h) {h : Hp} {v1 : Int32} {v2 : Int32} {v3 : Int32} {v4 : Int32} (e : R_101_58 rec_4 rec_29 v1 v2 v3 v4 h = some r) : G X d 101 58 [some (.ref 0), some (.int v1), some (.int v2), some (.int v3), some (.int v4)] [] h := by
  unfold R_101_58 at e
  exact k_101_58 (hr_29 e)
noncomputable def R_101_55 (rec_4 : Int32 → Int32 → Int32 → Hp → Option (Int32 × Hp)) (rec_29 : Int32 → Int32 → Int32 → Int32 → Hp → Option (Int32 × Hp)) (v1 : Int32) (v2 : Int32) (v3 : Int32) (v4 : Int32) (s0 : Int32) (h : Hp) : Option (Int32 × Hp) := if s0 = 0 then R_101_65 rec_4 rec_29 v1 v2 v3 v4 h else R_101_58 rec_4 rec_29 v1 v2 v3 v4 h
theorem r_101_55 {X : GX} {d : Nat} {r : Int32 × Hp} (hd : 3 ≤ d) (hq : RtX X (some (.int r.1)) r.2) {rec_4 : Int32 → Int32 → Int32 → Hp → Option (Int32 × Hp)} {rec_29 : Int32 → Int32 → Int32 → Int32 → Hp → Option (Int32 × Hp)} (hr_4 : ∀ {v1 : Int32} {v2 : Int32} {v3 : Int32} {h : Hp}, rec_4 v1 v2 v3 h = some r → G X d 101 4 [some (.ref 0), some (.int v1), some (.int v2), some (.int v3), none] [] h) (hr_29 : ∀ {v1 : Int32} {v2 : Int32} {v3 : Int32} {v4 : Int32} {h : Hp}, rec_29 v1 v2 v3 v4 h = some r → G X d 101 29 [some (.ref 0), some (.int v1), some (.int v2), some (.int v3), some (.int v4)] [] h) {h : Hp} {v1 : Int32} {v2 : Int32} {v3 : Int32} {v4 : Int32} {s0 : Int32} (e : R_101_55 rec_4 rec_29 v1 v2 v3 v4 s0 h = some r) : G X d 101 55 [some (.ref 0), some (.int v1), some (.int v2), some (.int v3), some (.int v4)] [.int s0] h := by
  unfold R_101_55 at e
  refine k_101_55 (fun c => ?_) (fun c => ?_)
  · rw [if_pos c] at e; exact r_101_65 hd hq hr_4 hr_29 e
  · rw [if_neg c] at e; exact r_101_58 hd hq hr_4 hr_29 e
noncomputable def R_101_41 (rec_4 : Int32 → Int32 → Int32 → Hp → Option (Int32 × Hp)) (rec_29 : Int32 → Int32 → Int32 → Int32 → Hp → Option (Int32 × Hp)) (v1 : Int32) (v2 : Int32) (v3 : Int32) (v4 : Int32) (h : Hp) : Option (Int32 × Hp) := bndI (S_102 13 v3 v4 h) (R_101_55 rec_4 rec_29 v1 v2 v3 v4)
theorem r_101_41 {X : GX} {d : Nat} {r : Int32 × Hp} (hd : 3 ≤ d) (hq : RtX X (some (.int r.1)) r.2) {rec_4 : Int32 → Int32 → Int32 → Hp → Option (Int32 × Hp)} {rec_29 : Int32 → Int32 → Int32 → Int32 → Hp → Option (Int32 × Hp)} (hr_4 : ∀ {v1 : Int32} {v2 : Int32} {v3 : Int32} {h : Hp}, rec_4 v1 v2 v3 h = some r → G X d 101 4 [some (.ref 0), some (.int v1), some (.int v2), some (.int v3), none] [] h) (hr_29 : ∀ {v1 : Int32} {v2 : Int32} {v3 : Int32} {v4 : Int32} {h : Hp}, rec_29 v1 v2 v3 v4 h = some r → G X d 101 29 [some (.ref 0), some (.int v1), some (.int v2), some (.int v3), some (.int v4)] [] h) {h : Hp} {v1 : Int32} {v2 : Int32} {v3 : Int32} {v4 : Int32} (e : R_101_41 rec_4 rec_29 v1 v2 v3 v4 h = some r) : G X d 101 41 [some (.ref 0), some (.int v1), some (.int v2), some (.int v3), some (.int v4)] [] h := by
  unfold R_101_41 at e
  obtain ⟨x, h2, e1, e2⟩ := bndI_s e
  refine k_101_41 (by omega) (t_102 e1) ?_
  rintro _ _ ⟨rfl, rfl⟩
  exact r_101_55 hd hq hr_4 hr_29 e2
noncomputable def R_101_29 (rec_4 : Int32 → Int32 → Int32 → Hp → Option (Int32 × Hp)) (rec_29 : Int32 → Int32 → Int32 → Int32 → Hp → Option (Int32 × Hp)) (v1 : Int32) (v2 : Int32) (v3 : Int32) (v4 : Int32) (h : Hp) : Option (Int32 × Hp) := if (h 1 7) ≤ v4 then R_101_71 rec_4 v1 v2 v3 h else R_101_41 rec_4 rec_29 v1 v2 v3 v4 h
theorem r_101_29 {X : GX} {d : Nat} {r : Int32 × Hp} (hd : 3 ≤ d) (hq : RtX X (some (.int r.1)) r.2) {rec_4 : Int32 → Int32 → Int32 → Hp → Option (Int32 × Hp)} {rec_29 : Int32 → Int32 → Int32 → Int32 → Hp → Option (Int32 × Hp)} (hr_4 : ∀ {v1 : Int32} {v2 : Int32} {v3 : Int32} {h : Hp}, rec_4 v1 v2 v3 h = some r → G X d 101 4 [some (.ref 0), some (.int v1), some (.int v2), some (.int v3), none] [] h) (hr_29 : ∀ {v1 : Int32} {v2 : Int32} {v3 : Int32} {v4 : Int32} {h : Hp}, rec_29 v1 v2 v3 v4 h = some r → G X d 101 29 [some (.ref 0), some (.int v1), some (.int v2), some (.int v3), some (.int v4)] [] h) {h : Hp} {v1 : Int32} {v2 : Int32} {v3 : Int32} {v4 : Int32} (e : R_101_29 rec_4 rec_29 v1 v2 v3 v4 h = some r) : G X d 101 29 [some (.ref 0), some (.int v1), some (.int v2), some (.int v3), some (.int v4)] [] h := by
  unfold R_101_29 at e
  refine k_101_29 (fun c => ?_) (fun c => ?_)
  · rw [if_pos c] at e; exact r_101_71 hd hq hr_4 e
  · rw [if_neg c] at e; exact r_101_41 hd hq hr_4 hr_29 e
noncomputable def H_101_29 (rec_4 : Int32 → Int32 → Int32 → Hp → Option (Int32 × Hp)) : Nat → Int32 → Int32 → Int32 → Int32 → Hp → Option (Int32 × Hp)
  | 0, _, _, _, _, _ => none
  | n + 1, v1, v2, v3, v4, h => R_101_29 rec_4 (H_101_29 rec_4 n) v1 v2 v3 v4 h
theorem h_101_29 {X : GX} {d : Nat} {r : Int32 × Hp} (hd : 3 ≤ d) (hq : RtX X (some (.int r.1)) r.2) {rec_4 : Int32 → Int32 → Int32 → Hp → Option (Int32 × Hp)} (hr_4 : ∀ {v1 : Int32} {v2 : Int32} {v3 : Int32} {h : Hp}, rec_4 v1 v2 v3 h = some r → G X d 101 4 [some (.ref 0), some (.int v1), some (.int v2), some (.int v3), none] [] h) {n : Nat} {h : Hp} {v1 : Int32} {v2 : Int32} {v3 : Int32} {v4 : Int32} (e : H_101_29 rec_4 n v1 v2 v3 v4 h = some r) : G X d 101 29 [some (.ref 0), some (.int v1), some (.int v2), some (.int v3), some (.int v4)] [] h := by
  induction n generalizing v1 v2 v3 v4 h with
  | zero => cases e
  | succ n ih => exact r_101_29 hd hq hr_4 (fun e => ih e) e
noncomputable def R_101_26 (rec_4 : Int32 → Int32 → Int32 → Hp → Option (Int32 × Hp)) (v1 : Int32) (v2 : Int32) (v3 : Int32) (h : Hp) : Option (Int32 × Hp) := H_101_29 rec_4 fuL v1 v2 v3 0 h
theorem r_101_26 {X : GX} {d : Nat} {r : Int32 × Hp} (hd : 3 ≤ d) (hq : RtX X (some (.int r.1)) r.2) {rec_4 : Int32 → Int32 → Int32 → Hp → Option (Int32 × Hp)} (hr_4 : ∀ {v1 : Int32} {v2 : Int32} {v3 : Int32} {h : Hp}, rec_4 v1 v2 v3 h = some r → G X d 101 4 [some (.ref 0), some (.int v1), some (.int v2), some (.int v3), none] [] h) {h : Hp} {v1 : Int32} {v2 : Int32} {v3 : Int32} (e : R_101_26 rec_4 v1 v2 v3 h = some r) : G X d 101 26 [some (.ref 0), some (.int v1), some (.int v2), some (.int v3), none] [] h := by
  unfold R_101_26 at e
  exact k_101_26 (h_101_29 hd hq hr_4 e)
noncomputable def R_101_23 (rec_4 : Int32 → Int32 → Int32 → Hp → Option (Int32 × Hp)) (v1 : Int32) (v2 : Int32) (v3 : Int32) (h : Hp) : Option (Int32 × Hp) := rec_4 v1 v2 (v3 + 1) h
theorem r_101_23 {X : GX} {d : Nat} {r : Int32 × Hp} (hd : 3 ≤ d) (hq : RtX X (some (.int r.1)) r.2) {rec_4 : Int32 → Int32 → Int32 → Hp → Option (Int32 × Hp)} (hr_4 : ∀ {v1 : Int32} {v2 : Int32} {v3 : Int32} {h : Hp}, rec_4 v1 v2 v3 h = some r → G X d 101 4 [some (.ref 0), some (.int v1), some (.int v2), some (.int v3), none] [] h) {h : Hp} {v1 : Int32} {v2 : Int32} {v3 : Int32} (e : R_101_23 rec_4 v1 v2 v3 h = some r) : G X d 101 23 [some (.ref 0), some (.int v1), some (.int v2), some (.int v3), none] [] h := by
  unfold R_101_23 at e
  exact k_101_23 (hr_4 e)
noncomputable def R_101_15 (rec_4 : Int32 → Int32 → Int32 → Hp → Option (Int32 × Hp)) (v1 : Int32) (v2 : Int32) (v3 : Int32) (h : Hp) : Option (Int32 × Hp) := if ((v1 >>> (v3 &&& 31)) &&& 1) = 0 then R_101_23 rec_4 v1 v2 v3 h else R_101_26 rec_4 v1 v2 v3 h
theorem r_101_15 {X : GX} {d : Nat} {r : Int32 × Hp} (hd : 3 ≤ d) (hq : RtX X (some (.int r.1)) r.2) {rec_4 : Int32 → Int32 → Int32 → Hp → Option (Int32 × Hp)} (hr_4 : ∀ {v1 : Int32} {v2 : Int32} {v3 : Int32} {h : Hp}, rec_4 v1 v2 v3 h = some r → G X d 101 4 [some (.ref 0), some (.int v1), some (.int v2), some (.int v3), none] [] h) {h : Hp} {v1 : Int32} {v2 : Int32} {v3 : Int32} (e : R_101_15 rec_4 v1 v2 v3 h = some r) : G X d 101 15 [some (.ref 0), some (.int v1), some (.int v2), some (.int v3), none] [] h := by
  unfold R_101_15 at e
  refine k_101_15 (fun c => ?_) (fun c => ?_)
  · rw [if_neg c] at e; exact r_101_26 hd hq hr_4 e
  · rw [if_pos c] at e; exact r_101_23 hd hq hr_4 e
noncomputable def R_101_4 (rec_4 : Int32 → Int32 → Int32 → Hp → Option (Int32 × Hp)) (v1 : Int32) (v2 : Int32) (v3 : Int32) (h : Hp) : Option (Int32 × Hp) := if (h 1 7) ≤ v3 then R_101_77 v2 h else R_101_15 rec_4 v1 v2 v3 h
theorem r_101_4 {X : GX} {d : Nat} {r : Int32 × Hp} (hd : 3 ≤ d) (hq : RtX X (some (.int r.1)) r.2) {rec_4 : Int32 → Int32 → Int32 → Hp → Option (Int32 × Hp)} (hr_4 : ∀ {v1 : Int32} {v2 : Int32} {v3 : Int32} {h : Hp}, rec_4 v1 v2 v3 h = some r → G X d 101 4 [some (.ref 0), some (.int v1), some (.int v2), some (.int v3), none] [] h) {h : Hp} {v1 : Int32} {v2 : Int32} {v3 : Int32} (e : R_101_4 rec_4 v1 v2 v3 h = some r) : G X d 101 4 [some (.ref 0), some (.int v1), some (.int v2), some (.int v3), none] [] h := by
  unfold R_101_4 at e
  refine k_101_4 (fun c => ?_) (fun c => ?_)
  · rw [if_pos c] at e; exact r_101_77 hd hq e
  · rw [if_neg c] at e; exact r_101_15 hd hq hr_4 e
noncomputable def H_101_4 : Nat → Int32 → Int32 → Int32 → Hp → Option (Int32 × Hp)
  | 0, _, _, _, _ => none
  | n + 1, v1, v2, v3, h => R_101_4 (H_101_4 n) v1 v2 v3 h
theorem h_101_4 {X : GX} {d : Nat} {r : Int32 × Hp} (hd : 3 ≤ d) (hq : RtX X (some (.int r.1)) r.2) {n : Nat} {h : Hp} {v1 : Int32} {v2 : Int32} {v3 : Int32} (e : H_101_4 n v1 v2 v3 h = some r) : G X d 101 4 [some (.ref 0), some (.int v1), some (.int v2), some (.int v3), none] [] h := by
  induction n generalizing v1 v2 v3 h with
  | zero => cases e
  | succ n ih => exact r_101_4 hd hq (fun e => ih e) e
noncomputable def R_101_0 (v1 : Int32) (h : Hp) : Option (Int32 × Hp) := H_101_4 fuL v1 0 0 h
theorem r_101_0 {X : GX} {d : Nat} {r : Int32 × Hp} (hd : 3 ≤ d) (hq : RtX X (some (.int r.1)) r.2) {h : Hp} {v1 : Int32} (e : R_101_0 v1 h = some r) : G X d 101 0 [some (.ref 0), some (.int v1), none, none, none] [] h := by
  unfold R_101_0 at e
  exact k_101_0 (h_101_4 hd hq e)
noncomputable def S_101 (v1 : Int32) (h : Hp) : Option (Int32 × Hp) := R_101_0 v1 h
set_option maxRecDepth 100000 in
theorem t_101 {v1 : Int32} {h : Hp} {r : Int32 × Hp} (e : S_101 v1 h = some r) : CI 3 101 [.ref 0, .int v1] h (fun x g => x = r.1 ∧ g = r.2) := by
  refine C.of mo_101 (Nat.le_of_ble_eq_true rfl) (fun X hq => ?_)
  exact r_101_0 (Nat.le_refl _) (hq _ _ ⟨_, rfl, rfl, rfl⟩) e
/-! 100 PlayedTruth.strandOf(I)I -/
noncomputable def R_100_44 (v2 : Int32) (h : Hp) : Option (Int32 × Hp) := some (v2, h)
theorem r_100_44 {X : GX} {d : Nat} {r : Int32 × Hp} (hd : 4 ≤ d) (hq : RtX X (some (.int r.1)) r.2) {h : Hp} {v2 : Int32} (e : R_100_44 v2 h = some r) : G X d 100 44 [none, none, some (.int v2), none] [] h := by
  unfold R_100_44 at e
  rw [← Option.some.inj e] at hq
  exact k_100_44 hq
noncomputable def R_100_36 (rec_19 : Int32 → Int32 → Hp → Option (Int32 × Hp)) (v3 : Int32) (s1 : Int32) (s0 : Int32) (h : Hp) : Option (Int32 × Hp) := rec_19 (s1 ||| s0) (v3 + 1) h
theorem r_100_36 {X : GX} {d : Nat} {r : Int32 × Hp} (hd : 4 ≤ d) (hq : RtX X (some (.int r.1)) r.2) {rec_19 : Int32 → Int32 → Hp → Option (Int32 × Hp)} (hr_19 : ∀ {v2 : Int32} {v3 : Int32} {h : Hp}, rec_19 v2 v3 h = some r → G X d 100 19 [some (.ref 0), none, some (.int v2), some (.int v3)] [] h) {h : Hp} {v3 : Int32} {s1 : Int32} {s0 : Int32} (e : R_100_36 rec_19 v3 s1 s0 h = some r) : G X d 100 36 [some (.ref 0), none, none, some (.int v3)] [.int s0, .int s1] h := by
  unfold R_100_36 at e
  exact k_100_36 (hr_19 e)
noncomputable def R_100_30 (rec_19 : Int32 → Int32 → Hp → Option (Int32 × Hp)) (v2 : Int32) (v3 : Int32) (h : Hp) : Option (Int32 × Hp) := bndI (S_101 v2 h) (R_100_36 rec_19 v3 v2)
theorem r_100_30 {X : GX} {d : Nat} {r : Int32 × Hp} (hd : 4 ≤ d) (hq : RtX X (some (.int r.1)) r.2) {rec_19 : Int32 → Int32 → Hp → Option (Int32 × Hp)} (hr_19 : ∀ {v2 : Int32} {v3 : Int32} {h : Hp}, rec_19 v2 v3 h = some r → G X d 100 19 [some (.ref 0), none, some (.int v2), some (.int v3)] [] h) {h : Hp} {v2 : Int32} {v3 : Int32} (e : R_100_30 rec_19 v2 v3 h = some r) : G X d 100 30 [some (.ref 0), none, some (.int v2), some (.int v3)] [] h := by
  unfold R_100_30 at e
  obtain ⟨x, h2, e1, e2⟩ := bndI_s e
  refine k_100_30 (by omega) (t_101 e1) ?_
  rintro _ _ ⟨rfl, rfl⟩
  exact r_100_36 hd hq hr_19 e2
noncomputable def R_100_19 (rec_19 : Int32 → Int32 → Hp → Option (Int32 × Hp)) (v2 : Int32) (v3 : Int32) (h : Hp) : Option (Int32 × Hp) := if (h 1 7) ≤ v3 then R_100_44 v2 h else R_100_30 rec_19 v2 v3 h
theorem r_100_19 {X : GX} {d : Nat} {r : Int32 × Hp} (hd : 4 ≤ d) (hq : RtX X (some (.int r.1)) r.2) {rec_19 : Int32 → Int32 → Hp → Option (Int32 × Hp)} (hr_19 : ∀ {v2 : Int32} {v3 : Int32} {h : Hp}, rec_19 v2 v3 h = some r → G X d 100 19 [some (.ref 0), none, some (.int v2), some (.int v3)] [] h) {h : Hp} {v2 : Int32} {v3 : Int32} (e : R_100_19 rec_19 v2 v3 h = some r) : G X d 100 19 [some (.ref 0), none, some (.int v2), some (.int v3)] [] h := by
  unfold R_100_19 at e
  refine k_100_19 (fun c => ?_) (fun c => ?_)
  · rw [if_pos c] at e; exact r_100_44 hd hq e
  · rw [if_neg c] at e; exact r_100_30 hd hq hr_19 e
noncomputable def H_100_19 : Nat → Int32 → Int32 → Hp → Option (Int32 × Hp)
  | 0, _, _, _ => none
  | n + 1, v2, v3, h => R_100_19 (H_100_19 n) v2 v3 h
theorem h_100_19 {X : GX} {d : Nat} {r : Int32 × Hp} (hd : 4 ≤ d) (hq : RtX X (some (.int r.1)) r.2) {n : Nat} {h : Hp} {v2 : Int32} {v3 : Int32} (e : H_100_19 n v2 v3 h = some r) : G X d 100 19 [some (.ref 0), none, some (.int v2), some (.int v3)] [] h := by
  induction n generalizing v2 v3 h with
  | zero => cases e
  | succ n ih => exact r_100_19 hd hq (fun e => ih e) e
noncomputable def R_100_13 (v1 : Int32) (h : Hp) : Option (Int32 × Hp) := H_100_19 fuL (1 <<< (v1 &&& 31)) 1 h
theorem r_100_13 {X : GX} {d : Nat} {r : Int32 × Hp} (hd : 4 ≤ d) (hq : RtX X (some (.int r.1)) r.2) {h : Hp} {v1 : Int32} (e : R_100_13 v1 h = some r) : G X d 100 13 [some (.ref 0), some (.int v1), none, none] [] h := by
  unfold R_100_13 at e
  exact k_100_13 (h_100_19 hd hq e)
noncomputable def R_100_11 (h : Hp) : Option (Int32 × Hp) := some (0, h)
theorem r_100_11 {X : GX} {d : Nat} {r : Int32 × Hp} (hd : 4 ≤ d) (hq : RtX X (some (.int r.1)) r.2) {h : Hp} (e : R_100_11 h = some r) : G X d 100 11 [none, none, none, none] [] h := by
  unfold R_100_11 at e
  rw [← Option.some.inj e] at hq
  exact k_100_11 hq
noncomputable def R_100_8 (v1 : Int32) (s0 : Int32) (h : Hp) : Option (Int32 × Hp) := if s0 = 0 then R_100_13 v1 h else R_100_11 h
theorem r_100_8 {X : GX} {d : Nat} {r : Int32 × Hp} (hd : 4 ≤ d) (hq : RtX X (some (.int r.1)) r.2) {h : Hp} {v1 : Int32} {s0 : Int32} (e : R_100_8 v1 s0 h = some r) : G X d 100 8 [some (.ref 0), some (.int v1), none, none] [.int s0] h := by
  unfold R_100_8 at e
  refine k_100_8 (fun c => ?_) (fun c => ?_)
  · rw [if_pos c] at e; exact r_100_13 hd hq e
  · rw [if_neg c] at e; exact r_100_11 hd hq e
noncomputable def R_100_0 (v1 : Int32) (h : Hp) : Option (Int32 × Hp) := bndI (S_15 13 v1 h) (R_100_8 v1)
theorem r_100_0 {X : GX} {d : Nat} {r : Int32 × Hp} (hd : 4 ≤ d) (hq : RtX X (some (.int r.1)) r.2) {h : Hp} {v1 : Int32} (e : R_100_0 v1 h = some r) : G X d 100 0 [some (.ref 0), some (.int v1), none, none] [] h := by
  unfold R_100_0 at e
  obtain ⟨x, h2, e1, e2⟩ := bndI_s e
  refine k_100_0 (by omega) (t_15 e1) ?_
  rintro _ _ ⟨rfl, rfl⟩
  exact r_100_8 hd hq e2
noncomputable def S_100 (v1 : Int32) (h : Hp) : Option (Int32 × Hp) := R_100_0 v1 h
set_option maxRecDepth 100000 in
theorem t_100 {v1 : Int32} {h : Hp} {r : Int32 × Hp} (e : S_100 v1 h = some r) : CI 4 100 [.ref 0, .int v1] h (fun x g => x = r.1 ∧ g = r.2) := by
  refine C.of mo_100 (Nat.le_of_ble_eq_true rfl) (fun X hq => ?_)
  exact r_100_0 (Nat.le_refl _) (hq _ _ ⟨_, rfl, rfl, rfl⟩) e
/-! 99 PlayedTruth.countStrands()I -/
noncomputable def R_99_52 (v1 : Int32) (h : Hp) : Option (Int32 × Hp) := some (v1, h)
theorem r_99_52 {X : GX} {d : Nat} {r : Int32 × Hp} (hd : 5 ≤ d) (hq : RtX X (some (.int r.1)) r.2) {h : Hp} {v1 : Int32} (e : R_99_52 v1 h = some r) : G X d 99 52 [none, some (.int v1), none, none] [] h := by
  unfold R_99_52 at e
  rw [← Option.some.inj e] at hq
  exact k_99_52 hq
noncomputable def R_99_41 (rec_12 : Int32 → Int32 → Int32 → Hp → Option (Int32 × Hp)) (v1 : Int32) (v3 : Int32) (s1 : Int32) (s0 : Int32) (h : Hp) : Option (Int32 × Hp) := rec_12 (v1 + 1) (s1 ||| s0) (v3 + 1) h
theorem r_99_41 {X : GX} {d : Nat} {r : Int32 × Hp} (hd : 5 ≤ d) (hq : RtX X (some (.int r.1)) r.2) {rec_12 : Int32 → Int32 → Int32 → Hp → Option (Int32 × Hp)} (hr_12 : ∀ {v1 : Int32} {v2 : Int32} {v3 : Int32} {h : Hp}, rec_12 v1 v2 v3 h = some r → G X d 99 12 [some (.ref 0), some (.int v1), some (.int v2), some (.int v3)] [] h) {h : Hp} {v1 : Int32} {v3 : Int32} {s1 : Int32} {s0 : Int32} (e : R_99_41 rec_12 v1 v3 s1 s0 h = some r) : G X d 99 41 [some (.ref 0), some (.int v1), none, some (.int v3)] [.int s0, .int s1] h := by
  unfold R_99_41 at e
  exact k_99_41 (hr_12 e)
noncomputable def R_99_35 (rec_12 : Int32 → Int32 → Int32 → Hp → Option (Int32 × Hp)) (v1 : Int32) (v2 : Int32) (v3 : Int32) (h : Hp) : Option (Int32 × Hp) := bndI (S_100 v3 h) (R_99_41 rec_12 v1 v3 v2)
theorem r_99_35 {X : GX} {d : Nat} {r : Int32 × Hp} (hd : 5 ≤ d) (hq : RtX X (some (.int r.1)) r.2) {rec_12 : Int32 → Int32 → Int32 → Hp → Option (Int32 × Hp)} (hr_12 : ∀ {v1 : Int32} {v2 : Int32} {v3 : Int32} {h : Hp}, rec_12 v1 v2 v3 h = some r → G X d 99 12 [some (.ref 0), some (.int v1), some (.int v2), some (.int v3)] [] h) {h : Hp} {v1 : Int32} {v2 : Int32} {v3 : Int32} (e : R_99_35 rec_12 v1 v2 v3 h = some r) : G X d 99 35 [some (.ref 0), some (.int v1), some (.int v2), some (.int v3)] [] h := by
  unfold R_99_35 at e
  obtain ⟨x, h2, e1, e2⟩ := bndI_s e
  refine k_99_35 (by omega) (t_100 e1) ?_
  rintro _ _ ⟨rfl, rfl⟩
  exact r_99_41 hd hq hr_12 e2
noncomputable def R_99_32 (rec_12 : Int32 → Int32 → Int32 → Hp → Option (Int32 × Hp)) (v1 : Int32) (v2 : Int32) (v3 : Int32) (h : Hp) : Option (Int32 × Hp) := rec_12 v1 v2 (v3 + 1) h
theorem r_99_32 {X : GX} {d : Nat} {r : Int32 × Hp} (hd : 5 ≤ d) (hq : RtX X (some (.int r.1)) r.2) {rec_12 : Int32 → Int32 → Int32 → Hp → Option (Int32 × Hp)} (hr_12 : ∀ {v1 : Int32} {v2 : Int32} {v3 : Int32} {h : Hp}, rec_12 v1 v2 v3 h = some r → G X d 99 12 [some (.ref 0), some (.int v1), some (.int v2), some (.int v3)] [] h) {h : Hp} {v1 : Int32} {v2 : Int32} {v3 : Int32} (e : R_99_32 rec_12 v1 v2 v3 h = some r) : G X d 99 32 [some (.ref 0), some (.int v1), some (.int v2), some (.int v3)] [] h := by
  unfold R_99_32 at e
  exact k_99_32 (hr_12 e)
noncomputable def R_99_23 (rec_12 : Int32 → Int32 → Int32 → Hp → Option (Int32 × Hp)) (v1 : Int32) (v2 : Int32) (v3 : Int32) (h : Hp) : Option (Int32 × Hp) := if ((v2 >>> (v3 &&& 31)) &&& 1) = 1 then R_99_32 rec_12 v1 v2 v3 h else R_99_35 rec_12 v1 v2 v3 h
theorem r_99_23 {X : GX} {d : Nat} {r : Int32 × Hp} (hd : 5 ≤ d) (hq : RtX X (some (.int r.1)) r.2) {rec_12 : Int32 → Int32 → Int32 → Hp → Option (Int32 × Hp)} (hr_12 : ∀ {v1 : Int32} {v2 : Int32} {v3 : Int32} {h : Hp}, rec_12 v1 v2 v3 h = some r → G X d 99 12 [some (.ref 0), some (.int v1), some (.int v2), some (.int v3)] [] h) {h : Hp} {v1 : Int32} {v2 : Int32} {v3 : Int32} (e : R_99_23 rec_12 v1 v2 v3 h = some r) : G X d 99 23 [some (.ref 0), some (.int v1), some (.int v2), some (.int v3)] [] h := by
  unfold R_99_23 at e
  refine k_99_23 (fun c => ?_) (fun c => ?_)
  · rw [if_neg c] at e; exact r_99_35 hd hq hr_12 e
  · rw [if_pos c] at e; exact r_99_32 hd hq hr_12 e
noncomputable def R_99_12 (rec_12 : Int32 → Int32 → Int32 → Hp → Option (Int32 × Hp)) (v1 : Int32) (v2 : Int32) (v3 : Int32) (h : Hp) : Option (Int32 × Hp) := if (h 1 7) ≤ v3 then R_99_52 v1 h else R_99_23 rec_12 v1 v2 v3 h
theorem r_99_12 {X : GX} {d : Nat} {r : Int32 × Hp} (hd : 5 ≤ d) (hq : RtX X (some (.int r.1)) r.2) {rec_12 : Int32 → Int32 → Int32 → Hp → Option (Int32 × Hp)} (hr_12 : ∀ {v1 : Int32} {v2 : Int32} {v3 : Int32} {h : Hp}, rec_12 v1 v2 v3 h = some r → G X d 99 12 [some (.ref 0), some (.int v1), some (.int v2), some (.int v3)] [] h) {h : Hp} {v1 : Int32} {v2 : Int32} {v3 : Int32} (e : R_99_12 rec_12 v1 v2 v3 h = some r) : G X d 99 12 [some (.ref 0), some (.int v1), some (.int v2), some (.int v3)] [] h := by
  unfold R_99_12 at e
  refine k_99_12 (fun c => ?_) (fun c => ?_)
  · rw [if_pos c] at e; exact r_99_52 hd hq e
  · rw [if_neg c] at e; exact r_99_23 hd hq hr_12 e
noncomputable def H_99_12 : Nat → Int32 → Int32 → Int32 → Hp → Option (Int32 × Hp)
  | 0, _, _, _, _ => none
  | n + 1, v1, v2, v3, h => R_99_12 (H_99_12 n) v1 v2 v3 h
theorem h_99_12 {X : GX} {d : Nat} {r : Int32 × Hp} (hd : 5 ≤ d) (hq : RtX X (some (.int r.1)) r.2) {n : Nat} {h : Hp} {v1 : Int32} {v2 : Int32} {v3 : Int32} (e : H_99_12 n v1 v2 v3 h = some r) : G X d 99 12 [some (.ref 0), some (.int v1), some (.int v2), some (.int v3)] [] h := by
  induction n generalizing v1 v2 v3 h with
  | zero => cases e
  | succ n ih => exact r_99_12 hd hq (fun e => ih e) e
noncomputable def R_99_0 (h : Hp) : Option (Int32 × Hp) := H_99_12 fuL 0 (h 13 2) 0 h
theorem r_99_0 {X : GX} {d : Nat} {r : Int32 × Hp} (hd : 5 ≤ d) (hq : RtX X (some (.int r.1)) r.2) {h : Hp} (e : R_99_0 h = some r) : G X d 99 0 [some (.ref 0), none, none, none] [] h := by
  unfold R_99_0 at e
  exact k_99_0 (h_99_12 hd hq e)
noncomputable def S_99 (h : Hp) : Option (Int32 × Hp) := R_99_0 h
set_option maxRecDepth 100000 in
theorem t_99 {h : Hp} {r : Int32 × Hp} (e : S_99 h = some r) : CI 5 99 [.ref 0] h (fun x g => x = r.1 ∧ g = r.2) := by
  refine C.of mo_99 (Nat.le_of_ble_eq_true rfl) (fun X hq => ?_)
  exact r_99_0 (Nat.le_refl _) (hq _ _ ⟨_, rfl, rfl, rfl⟩) e
/-! 98 PlayedTruth.strands(I)I -/
noncomputable def R_98_26 (h : Hp) : Option (Int32 × Hp) := some (((-1)), h)
theorem r_98_26 {X : GX} {d : Nat} {r : Int32 × Hp} (hd : 6 ≤ d) (hq : RtX X (some (.int r.1)) r.2) {h : Hp} (e : R_98_26 h = some r) : G X d 98 26 [none, none] [] h := by
  unfold R_98_26 at e
  rw [← Option.some.inj e] at hq
  exact k_98_26 hq
noncomputable def R_98_23 (s0 : Int32) (h : Hp) : Option (Int32 × Hp) := some (s0, h)
theorem r_98_23 {X : GX} {d : Nat} {r : Int32 × Hp} (hd : 6 ≤ d) (hq : RtX X (some (.int r.1)) r.2) {h : Hp} {s0 : Int32} (e : R_98_23 s0 h = some r) : G X d 98 23 [none, none] [.int s0] h := by
  unfold R_98_23 at e
  rw [← Option.some.inj e] at hq
  exact k_98_23 hq
noncomputable def R_98_18 (v1 : Int32) (h : Hp) : Option (Int32 × Hp) := bndI (S_100 v1 h) (R_98_23)
theorem r_98_18 {X : GX} {d : Nat} {r : Int32 × Hp} (hd : 6 ≤ d) (hq : RtX X (some (.int r.1)) r.2) {h : Hp} {v1 : Int32} (e : R_98_18 v1 h = some r) : G X d 98 18 [some (.ref 0), some (.int v1)] [] h := by
  unfold R_98_18 at e
  obtain ⟨x, h2, e1, e2⟩ := bndI_s e
  refine k_98_18 (by omega) (t_100 e1) ?_
  rintro _ _ ⟨rfl, rfl⟩
  exact r_98_23 hd hq e2
noncomputable def R_98_15 (v1 : Int32) (s0 : Int32) (h : Hp) : Option (Int32 × Hp) := if s0 = 0 then R_98_26 h else R_98_18 v1 h
theorem r_98_15 {X : GX} {d : Nat} {r : Int32 × Hp} (hd : 6 ≤ d) (hq : RtX X (some (.int r.1)) r.2) {h : Hp} {v1 : Int32} {s0 : Int32} (e : R_98_15 v1 s0 h = some r) : G X d 98 15 [some (.ref 0), some (.int v1)] [.int s0] h := by
  unfold R_98_15 at e
  refine k_98_15 (fun c => ?_) (fun c => ?_)
  · rw [if_pos c] at e; exact r_98_26 hd hq e
  · rw [if_neg c] at e; exact r_98_18 hd hq e
noncomputable def R_98_10 (v1 : Int32) (h : Hp) : Option (Int32 × Hp) := bndI (S_14 v1 h) (R_98_15 v1)
theorem r_98_10 {X : GX} {d : Nat} {r : Int32 × Hp} (hd : 6 ≤ d) (hq : RtX X (some (.int r.1)) r.2) {h : Hp} {v1 : Int32} (e : R_98_10 v1 h = some r) : G X d 98 10 [some (.ref 0), some (.int v1)] [] h := by
  unfold R_98_10 at e
  obtain ⟨x, h2, e1, e2⟩ := bndI_s e
  refine k_98_10 (by omega) (t_14 e1) ?_
  rintro _ _ ⟨rfl, rfl⟩
  exact r_98_15 hd hq e2
noncomputable def R_98_9 (s0 : Int32) (h : Hp) : Option (Int32 × Hp) := some (s0, h)
theorem r_98_9 {X : GX} {d : Nat} {r : Int32 × Hp} (hd : 6 ≤ d) (hq : RtX X (some (.int r.1)) r.2) {h : Hp} {s0 : Int32} (e : R_98_9 s0 h = some r) : G X d 98 9 [none, none] [.int s0] h := by
  unfold R_98_9 at e
  rw [← Option.some.inj e] at hq
  exact k_98_9 hq
noncomputable def R_98_5 (h : Hp) : Option (Int32 × Hp) := bndI (S_99 h) (R_98_9)
theorem r_98_5 {X : GX} {d : Nat} {r : Int32 × Hp} (hd : 6 ≤ d) (hq : RtX X (some (.int r.1)) r.2) {h : Hp} (e : R_98_5 h = some r) : G X d 98 5 [some (.ref 0), none] [] h := by
  unfold R_98_5 at e
  obtain ⟨x, h2, e1, e2⟩ := bndI_s e
  refine k_98_5 (by omega) (t_99 e1) ?_
  rintro _ _ ⟨rfl, rfl⟩
  exact r_98_9 hd hq e2
noncomputable def R_98_0 (v1 : Int32) (h : Hp) : Option (Int32 × Hp) := if v1 = ((-1)) then R_98_5 h else R_98_10 v1 h
theorem r_98_0 {X : GX} {d : Nat} {r : Int32 × Hp} (hd : 6 ≤ d) (hq : RtX X (some (.int r.1)) r.2) {h : Hp} {v1 : Int32} (e : R_98_0 v1 h = some r) : G X d 98 0 [some (.ref 0), some (.int v1)] [] h := by
  unfold R_98_0 at e
  refine k_98_0 (fun c => ?_) (fun c => ?_)
  · rw [if_neg c] at e; exact r_98_10 hd hq e
  · rw [if_pos c] at e; exact r_98_5 hd hq e
noncomputable def S_98 (v1 : Int32) (h : Hp) : Option (Int32 × Hp) := R_98_0 v1 h
set_option maxRecDepth 100000 in
theorem t_98 {v1 : Int32} {h : Hp} {r : Int32 × Hp} (e : S_98 v1 h = some r) : CI 6 98 [.ref 0, .int v1] h (fun x g => x = r.1 ∧ g = r.2) := by
  refine C.of mo_98 (Nat.le_of_ble_eq_true rfl) (fun X hq => ?_)
  exact r_98_0 (Nat.le_refl _) (hq _ _ ⟨_, rfl, rfl, rfl⟩) e
/-! 105 java/lang/Integer.bitCount(I)I -/
noncomputable def R_105_0 (v0 : Int32) (h : Hp) : Option (Int32 × Hp) := some (((((((((v0 - (((v0.toUInt32 >>> ((1 : Int32).toUInt32 &&& Int32.toUInt32 31)).toInt32) &&& 1431655765)) &&& 858993459) + ((((v0 - (((v0.toUInt32 >>> ((1 : Int32).toUInt32 &&& Int32.toUInt32 31)).toInt32) &&& 1431655765)).toUInt32 >>> ((2 : Int32).toUInt32 &&& Int32.toUInt32 31)).toInt32) &&& 858993459)) + (((((v0 - (((v0.toUInt32 >>> ((1 : Int32).toUInt32 &&& Int32.toUInt32 31)).toInt32) &&& 1431655765)) &&& 858993459) + ((((v0 - (((v0.toUInt32 >>> ((1 : Int32).toUInt32 &&& Int32.toUInt32 31)).toInt32) &&& 1431655765)).toUInt32 >>> ((2 : Int32).toUInt32 &&& Int32.toUInt32 31)).toInt32) &&& 858993459)).toUInt32 >>> ((4 : Int32).toUInt32 &&& Int32.toUInt32 31)).toInt32)) &&& 252645135) + (((((((v0 - (((v0.toUInt32 >>> ((1 : Int32).toUInt32 &&& Int32.toUInt32 31)).toInt32) &&& 1431655765)) &&& 858993459) + ((((v0 - (((v0.toUInt32 >>> ((1 : Int32).toUInt32 &&& Int32.toUInt32 31)).toInt32) &&& 1431655765)).toUInt32 >>> ((2 : Int32).toUInt32 &&& Int32.toUInt32 31)).toInt32) &&& 858993459)) + (((((v0 - (((v0.toUInt32 >>> ((1 : Int32).toUInt32 &&& Int32.toUInt32 31)).toInt32) &&& 1431655765)) &&& 858993459) + ((((v0 - (((v0.toUInt32 >>> ((1 : Int32).toUInt32 &&& Int32.toUInt32 31)).toInt32) &&& 1431655765)).toUInt32 >>> ((2 : Int32).toUInt32 &&& Int32.toUInt32 31)).toInt32) &&& 858993459)).toUInt32 >>> ((4 : Int32).toUInt32 &&& Int32.toUInt32 31)).toInt32)) &&& 252645135).toUInt32 >>> ((8 : Int32).toUInt32 &&& Int32.toUInt32 31)).toInt32)) + ((((((((v0 - (((v0.toUInt32 >>> ((1 : Int32).toUInt32 &&& Int32.toUInt32 31)).toInt32) &&& 1431655765)) &&& 858993459) + ((((v0 - (((v0.toUInt32 >>> ((1 : Int32).toUInt32 &&& Int32.toUInt32 31)).toInt32) &&& 1431655765)).toUInt32 >>> ((2 : Int32).toUInt32 &&& Int32.toUInt32 31)).toInt32) &&& 858993459)) + (((((v0 - (((v0.toUInt32 >>> ((1 : Int32).toUInt32 &&& Int32.toUInt32 31)).toInt32) &&& 1431655765)) &&& 858993459) + ((((v0 - (((v0.toUInt32 >>> ((1 : Int32).toUInt32 &&& Int32.toUInt32 31)).toInt32) &&& 1431655765)).toUInt32 >>> ((2 : Int32).toUInt32 &&& Int32.toUInt32 31)).toInt32) &&& 858993459)).toUInt32 >>> ((4 : Int32).toUInt32 &&& Int32.toUInt32 31)).toInt32)) &&& 252645135) + (((((((v0 - (((v0.toUInt32 >>> ((1 : Int32).toUInt32 &&& Int32.toUInt32 31)).toInt32) &&& 1431655765)) &&& 858993459) + ((((v0 - (((v0.toUInt32 >>> ((1 : Int32).toUInt32 &&& Int32.toUInt32 31)).toInt32) &&& 1431655765)).toUInt32 >>> ((2 : Int32).toUInt32 &&& Int32.toUInt32 31)).toInt32) &&& 858993459)) + (((((v0 - (((v0.toUInt32 >>> ((1 : Int32).toUInt32 &&& Int32.toUInt32 31)).toInt32) &&& 1431655765)) &&& 858993459) + ((((v0 - (((v0.toUInt32 >>> ((1 : Int32).toUInt32 &&& Int32.toUInt32 31)).toInt32) &&& 1431655765)).toUInt32 >>> ((2 : Int32).toUInt32 &&& Int32.toUInt32 31)).toInt32) &&& 858993459)).toUInt32 >>> ((4 : Int32).toUInt32 &&& Int32.toUInt32 31)).toInt32)) &&& 252645135).toUInt32 >>> ((8 : Int32).toUInt32 &&& Int32.toUInt32 31)).toInt32)).toUInt32 >>> ((16 : Int32).toUInt32 &&& Int32.toUInt32 31)).toInt32)) &&& 63), h)
set_option maxRecDepth 100000 in
theorem r_105_0 {X : GX} {d : Nat} {r : Int32 × Hp} (hd : 1 ≤ d) (hq : RtX X (some (.int r.1)) r.2) {h : Hp} {v0 : Int32} (e : R_105_0 v0 h = some r) : G X d 105 0 [some (.int v0)] [] h := by
  unfold R_105_0 at e
  rw [← Option.some.inj e] at hq
  exact k_105_0 hq
noncomputable def S_105 (v0 : Int32) (h : Hp) : Option (Int32 × Hp) := R_105_0 v0 h
set_option maxRecDepth 100000 in
theorem t_105 {v0 : Int32} {h : Hp} {r : Int32 × Hp} (e : S_105 v0 h = some r) : CI 1 105 [.int v0] h (fun x g => x = r.1 ∧ g = r.2) := by
  refine C.of mo_105 (Nat.le_of_ble_eq_true rfl) (fun X hq => ?_)
  exact r_105_0 (Nat.le_refl _) (hq _ _ ⟨_, rfl, rfl, rfl⟩) e
/-! 106 PlayedTruth$Stage.drawnBy(LPlayedTruth$Moment;I)I -/
noncomputable def R_106_40 (v3 : Int32) (h : Hp) : Option (Int32 × Hp) := some (v3, h)
theorem r_106_40 {X : GX} {d : Nat} {r : Int32 × Hp} (hd : 3 ≤ d) (hq : RtX X (some (.int r.1)) r.2) {h : Hp} {v3 : Int32} (e : R_106_40 v3 h = some r) : G X d 106 40 [none, none, none, some (.int v3), none] [] h := by
  unfold R_106_40 at e
  rw [← Option.some.inj e] at hq
  exact k_106_40 hq
noncomputable def R_106_34 (rec_5 : Nat → Int32 → Int32 → Int32 → Hp → Option (Int32 × Hp)) (v1 : Nat) (v2 : Int32) (v3 : Int32) (v4 : Int32) (h : Hp) : Option (Int32 × Hp) := rec_5 v1 v2 v3 (v4 + 1) h
theorem r_106_34 {X : GX} {d : Nat} {r : Int32 × Hp} (hd : 3 ≤ d) (hq : RtX X (some (.int r.1)) r.2) {rec_5 : Nat → Int32 → Int32 → Int32 → Hp → Option (Int32 × Hp)} (hr_5 : ∀ {v1 : Nat} {v2 : Int32} {v3 : Int32} {v4 : Int32} {h : Hp}, rec_5 v1 v2 v3 v4 h = some r → G X d 106 5 [some (.ref 1), some (.ref v1), some (.int v2), some (.int v3), some (.int v4)] [] h) {h : Hp} {v1 : Nat} {v2 : Int32} {v3 : Int32} {v4 : Int32} (e : R_106_34 rec_5 v1 v2 v3 v4 h = some r) : G X d 106 34 [some (.ref 1), some (.ref v1), some (.int v2), some (.int v3), some (.int v4)] [] h := by
  unfold R_106_34 at e
  exact k_106_34 (hr_5 e)
noncomputable def R_106_32 (rec_5 : Nat → Int32 → Int32 → Int32 → Hp → Option (Int32 × Hp)) (v1 : Nat) (v2 : Int32) (v4 : Int32) (s1 : Int32) (s0 : Int32) (h : Hp) : Option (Int32 × Hp) := rec_5 v1 v2 (s1 + s0) (v4 + 1) h
theorem r_106_32 {X : GX} {d : Nat} {r : Int32 × Hp} (hd : 3 ≤ d) (hq : RtX X (some (.int r.1)) r.2) {rec_5 : Nat → Int32 → Int32 → Int32 → Hp → Option (Int32 × Hp)} (hr_5 : ∀ {v1 : Nat} {v2 : Int32} {v3 : Int32} {v4 : Int32} {h : Hp}, rec_5 v1 v2 v3 v4 h = some r → G X d 106 5 [some (.ref 1), some (.ref v1), some (.int v2), some (.int v3), some (.int v4)] [] h) {h : Hp} {v1 : Nat} {v2 : Int32} {v4 : Int32} {s1 : Int32} {s0 : Int32} (e : R_106_32 rec_5 v1 v2 v4 s1 s0 h = some r) : G X d 106 32 [some (.ref 1), some (.ref v1), some (.int v2), none, some (.int v4)] [.int s0, .int s1] h := by
  unfold R_106_32 at e
  exact k_106_32 (hr_5 e)
noncomputable def R_106_24 (rec_5 : Nat → Int32 → Int32 → Int32 → Hp → Option (Int32 × Hp)) (v1 : Nat) (v2 : Int32) (v3 : Int32) (v4 : Int32) (h : Hp) : Option (Int32 × Hp) := bndI (S_21 v1 v4 h) (R_106_32 rec_5 v1 v2 v4 v3)
theorem r_106_24 {X : GX} {d : Nat} {r : Int32 × Hp} (hd : 3 ≤ d) (hq : RtX X (some (.int r.1)) r.2) {rec_5 : Nat → Int32 → Int32 → Int32 → Hp → Option (Int32 × Hp)} (hr_5 : ∀ {v1 : Nat} {v2 : Int32} {v3 : Int32} {v4 : Int32} {h : Hp}, rec_5 v1 v2 v3 v4 h = some r → G X d 106 5 [some (.ref 1), some (.ref v1), some (.int v2), some (.int v3), some (.int v4)] [] h) {h : Hp} {v1 : Nat} {v2 : Int32} {v3 : Int32} {v4 : Int32} (e : R_106_24 rec_5 v1 v2 v3 v4 h = some r) : G X d 106 24 [some (.ref 1), some (.ref v1), some (.int v2), some (.int v3), some (.int v4)] [] h := by
  unfold R_106_24 at e
  obtain ⟨x, h2, e1, e2⟩ := bndI_s e
  refine k_106_24 (by omega) (t_21 e1) ?_
  rintro _ _ ⟨rfl, rfl⟩
  exact r_106_32 hd hq hr_5 e2
noncomputable def R_106_14 (rec_5 : Nat → Int32 → Int32 → Int32 → Hp → Option (Int32 × Hp)) (v1 : Nat) (v2 : Int32) (v3 : Int32) (v4 : Int32) (h : Hp) : Option (Int32 × Hp) := if ((v2 >>> (v4 &&& 31)) &&& 1) = 1 then R_106_24 rec_5 v1 v2 v3 v4 h else R_106_34 rec_5 v1 v2 v3 v4 h
theorem r_106_14 {X : GX} {d : Nat} {r : Int32 × Hp} (hd : 3 ≤ d) (hq : RtX X (some (.int r.1)) r.2) {rec_5 : Nat → Int32 → Int32 → Int32 → Hp → Option (Int32 × Hp)} (hr_5 : ∀ {v1 : Nat} {v2 : Int32} {v3 : Int32} {v4 : Int32} {h : Hp}, rec_5 v1 v2 v3 v4 h = some r → G X d 106 5 [some (.ref 1), some (.ref v1), some (.int v2), some (.int v3), some (.int v4)] [] h) {h : Hp} {v1 : Nat} {v2 : Int32} {v3 : Int32} {v4 : Int32} (e : R_106_14 rec_5 v1 v2 v3 v4 h = some r) : G X d 106 14 [some (.ref 1), some (.ref v1), some (.int v2), some (.int v3), some (.int v4)] [] h := by
  unfold R_106_14 at e
  refine k_106_14 (fun c => ?_) (fun c => ?_)
  · rw [if_neg c] at e; exact r_106_34 hd hq hr_5 e
  · rw [if_pos c] at e; exact r_106_24 hd hq hr_5 e
noncomputable def R_106_5 (rec_5 : Nat → Int32 → Int32 → Int32 → Hp → Option (Int32 × Hp)) (v1 : Nat) (v2 : Int32) (v3 : Int32) (v4 : Int32) (h : Hp) : Option (Int32 × Hp) := if (h 1 7) ≤ v4 then R_106_40 v3 h else R_106_14 rec_5 v1 v2 v3 v4 h
theorem r_106_5 {X : GX} {d : Nat} {r : Int32 × Hp} (hd : 3 ≤ d) (hq : RtX X (some (.int r.1)) r.2) {rec_5 : Nat → Int32 → Int32 → Int32 → Hp → Option (Int32 × Hp)} (hr_5 : ∀ {v1 : Nat} {v2 : Int32} {v3 : Int32} {v4 : Int32} {h : Hp}, rec_5 v1 v2 v3 v4 h = some r → G X d 106 5 [some (.ref 1), some (.ref v1), some (.int v2), some (.int v3), some (.int v4)] [] h) {h : Hp} {v1 : Nat} {v2 : Int32} {v3 : Int32} {v4 : Int32} (e : R_106_5 rec_5 v1 v2 v3 v4 h = some r) : G X d 106 5 [some (.ref 1), some (.ref v1), some (.int v2), some (.int v3), some (.int v4)] [] h := by
  unfold R_106_5 at e
  refine k_106_5 (fun c => ?_) (fun c => ?_)
  · rw [if_pos c] at e; exact r_106_40 hd hq e
  · rw [if_neg c] at e; exact r_106_14 hd hq hr_5 e
noncomputable def H_106_5 : Nat → Nat → Int32 → Int32 → Int32 → Hp → Option (Int32 × Hp)
  | 0, _, _, _, _, _ => none
  | n + 1, v1, v2, v3, v4, h => R_106_5 (H_106_5 n) v1 v2 v3 v4 h
theorem h_106_5 {X : GX} {d : Nat} {r : Int32 × Hp} (hd : 3 ≤ d) (hq : RtX X (some (.int r.1)) r.2) {n : Nat} {h : Hp} {v1 : Nat} {v2 : Int32} {v3 : Int32} {v4 : Int32} (e : H_106_5 n v1 v2 v3 v4 h = some r) : G X d 106 5 [some (.ref 1), some (.ref v1), some (.int v2), some (.int v3), some (.int v4)] [] h := by
  induction n generalizing v1 v2 v3 v4 h with
  | zero => cases e
  | succ n ih => exact r_106_5 hd hq (fun e => ih e) e
noncomputable def R_106_0 (v1 : Nat) (v2 : Int32) (h : Hp) : Option (Int32 × Hp) := H_106_5 fuL v1 v2 0 0 h
theorem r_106_0 {X : GX} {d : Nat} {r : Int32 × Hp} (hd : 3 ≤ d) (hq : RtX X (some (.int r.1)) r.2) {h : Hp} {v1 : Nat} {v2 : Int32} (e : R_106_0 v1 v2 h = some r) : G X d 106 0 [some (.ref 1), some (.ref v1), some (.int v2), none, none] [] h := by
  unfold R_106_0 at e
  exact k_106_0 (h_106_5 hd hq e)
noncomputable def S_106 (v1 : Nat) (v2 : Int32) (h : Hp) : Option (Int32 × Hp) := R_106_0 v1 v2 h
set_option maxRecDepth 100000 in
theorem t_106 {v1 : Nat} {v2 : Int32} {h : Hp} {r : Int32 × Hp} (e : S_106 v1 v2 h = some r) : CI 3 106 [.ref 1, .ref v1, .int v2] h (fun x g => x = r.1 ∧ g = r.2) := by
  refine C.of mo_106 (Nat.le_of_ble_eq_true rfl) (fun X hq => ?_)
  exact r_106_0 (Nat.le_refl _) (hq _ _ ⟨_, rfl, rfl, rfl⟩) e
/-! 104 PlayedTruth.billing(I)I -/
noncomputable def R_104_78 (v2 : Int32) (h : Hp) : Option (Int32 × Hp) := some (v2, h)
theorem r_104_78 {X : GX} {d : Nat} {r : Int32 × Hp} (hd : 4 ≤ d) (hq : RtX X (some (.int r.1)) r.2) {h : Hp} {v2 : Int32} (e : R_104_78 v2 h = some r) : G X d 104 78 [none, none, some (.int v2), none, none, none] [] h := by
  unfold R_104_78 at e
  rw [← Option.some.inj e] at hq
  exact k_104_78 hq
noncomputable def R_104_72 (rec_22 : Int32 → Int32 → Int32 → Int32 → Hp → Option (Int32 × Hp)) (v1 : Int32) (v2 : Int32) (v3 : Int32) (v4 : Int32) (h : Hp) : Option (Int32 × Hp) := rec_22 v1 v2 v3 (v4 + 1) h
theorem r_104_72 {X : GX} {d : Nat} {r : Int32 × Hp} (hd : 4 ≤ d) (hq : RtX X (some (.int r.1)) r.2) {rec_22 : Int32 → Int32 → Int32 → Int32 → Hp → Option (Int32 × Hp)} (hr_22 : ∀ {v1 : Int32} {v2 : Int32} {v3 : Int32} {v4 : Int32} {h : Hp}, rec_22 v1 v2 v3 v4 h = some r → G X d 104 22 [some (.ref 0), some (.int v1), some (.int v2), some (.int v3), some (.int v4), none] [] h) {h : Hp} {v1 : Int32} {v2 : Int32} {v3 : Int32} {v4 : Int32} (e : R_104_72 rec_22 v1 v2 v3 v4 h = some r) : G X d 104 72 [some (.ref 0), some (.int v1), some (.int v2), some (.int v3), some (.int v4), none] [] h := by
  unfold R_104_72 at e
  exact k_104_72 (hr_22 e)
noncomputable def R_104_66 (rec_22 : Int32 → Int32 → Int32 → Int32 → Hp → Option (Int32 × Hp)) (v1 : Int32) (v4 : Int32) (v5 : Int32) (h : Hp) : Option (Int32 × Hp) := rec_22 v1 v4 v5 (v4 + 1) h
theorem r_104_66 {X : GX} {d : Nat} {r : Int32 × Hp} (hd : 4 ≤ d) (hq : RtX X (some (.int r.1)) r.2) {rec_22 : Int32 → Int32 → Int32 → Int32 → Hp → Option (Int32 × Hp)} (hr_22 : ∀ {v1 : Int32} {v2 : Int32} {v3 : Int32} {v4 : Int32} {h : Hp}, rec_22 v1 v2 v3 v4 h = some r → G X d 104 22 [some (.ref 0), some (.int v1), some (.int v2), some (.int v3), some (.int v4), none] [] h) {h : Hp} {v1 : Int32} {v4 : Int32} {v5 : Int32} (e : R_104_66 rec_22 v1 v4 v5 h = some r) : G X d 104 66 [some (.ref 0), some (.int v1), none, none, some (.int v4), some (.int v5)] [] h := by
  unfold R_104_66 at e
  exact k_104_66 (hr_22 e)
noncomputable def R_104_62 (rec_22 : Int32 → Int32 → Int32 → Int32 → Hp → Option (Int32 × Hp)) (v1 : Int32) (v2 : Int32) (v3 : Int32) (v4 : Int32) (v5 : Int32) (s0 : Int32) (h : Hp) : Option (Int32 × Hp) := if s0 < v1 then R_104_72 rec_22 v1 v2 v3 v4 h else R_104_66 rec_22 v1 v4 v5 h
theorem r_104_62 {X : GX} {d : Nat} {r : Int32 × Hp} (hd : 4 ≤ d) (hq : RtX X (some (.int r.1)) r.2) {rec_22 : Int32 → Int32 → Int32 → Int32 → Hp → Option (Int32 × Hp)} (hr_22 : ∀ {v1 : Int32} {v2 : Int32} {v3 : Int32} {v4 : Int32} {h : Hp}, rec_22 v1 v2 v3 v4 h = some r → G X d 104 22 [some (.ref 0), some (.int v1), some (.int v2), some (.int v3), some (.int v4), none] [] h) {h : Hp} {v1 : Int32} {v2 : Int32} {v3 : Int32} {v4 : Int32} {v5 : Int32} {s0 : Int32} (e : R_104_62 rec_22 v1 v2 v3 v4 v5 s0 h = some r) : G X d 104 62 [some (.ref 0), some (.int v1), some (.int v2), some (.int v3), some (.int v4), some (.int v5)] [.int s0] h := by
  unfold R_104_62 at e
  refine k_104_62 (fun c => ?_) (fun c => ?_)
  · rw [if_pos c] at e; exact r_104_72 hd hq hr_22 e
  · rw [if_neg c] at e; exact r_104_66 hd hq hr_22 e
noncomputable def R_104_49 (rec_22 : Int32 → Int32 → Int32 → Int32 → Hp → Option (Int32 × Hp)) (v1 : Int32) (v2 : Int32) (v3 : Int32) (v4 : Int32) (v5 : Int32) (h : Hp) : Option (Int32 × Hp) := bndI (S_106 13 v4 h) (R_104_62 rec_22 v1 v2 v3 v4 v5)
theorem r_104_49 {X : GX} {d : Nat} {r : Int32 × Hp} (hd : 4 ≤ d) (hq : RtX X (some (.int r.1)) r.2) {rec_22 : Int32 → Int32 → Int32 → Int32 → Hp → Option (Int32 × Hp)} (hr_22 : ∀ {v1 : Int32} {v2 : Int32} {v3 : Int32} {v4 : Int32} {h : Hp}, rec_22 v1 v2 v3 v4 h = some r → G X d 104 22 [some (.ref 0), some (.int v1), some (.int v2), some (.int v3), some (.int v4), none] [] h) {h : Hp} {v1 : Int32} {v2 : Int32} {v3 : Int32} {v4 : Int32} {v5 : Int32} (e : R_104_49 rec_22 v1 v2 v3 v4 v5 h = some r) : G X d 104 49 [some (.ref 0), some (.int v1), some (.int v2), some (.int v3), some (.int v4), some (.int v5)] [] h := by
  unfold R_104_49 at e
  obtain ⟨x, h2, e1, e2⟩ := bndI_s e
  refine k_104_49 (by omega) (t_106 e1) ?_
  rintro _ _ ⟨rfl, rfl⟩
  exact r_104_62 hd hq hr_22 e2
noncomputable def R_104_41 (rec_22 : Int32 → Int32 → Int32 → Int32 → Hp → Option (Int32 × Hp)) (v1 : Int32) (v2 : Int32) (v3 : Int32) (v4 : Int32) (s0 : Int32) (h : Hp) : Option (Int32 × Hp) := if v3 ≤ s0 then R_104_72 rec_22 v1 v2 v3 v4 h else R_104_49 rec_22 v1 v2 v3 v4 s0 h
theorem r_104_41 {X : GX} {d : Nat} {r : Int32 × Hp} (hd : 4 ≤ d) (hq : RtX X (some (.int r.1)) r.2) {rec_22 : Int32 → Int32 → Int32 → Int32 → Hp → Option (Int32 × Hp)} (hr_22 : ∀ {v1 : Int32} {v2 : Int32} {v3 : Int32} {v4 : Int32} {h : Hp}, rec_22 v1 v2 v3 v4 h = some r → G X d 104 22 [some (.ref 0), some (.int v1), some (.int v2), some (.int v3), some (.int v4), none] [] h) {h : Hp} {v1 : Int32} {v2 : Int32} {v3 : Int32} {v4 : Int32} {s0 : Int32} (e : R_104_41 rec_22 v1 v2 v3 v4 s0 h = some r) : G X d 104 41 [some (.ref 0), some (.int v1), some (.int v2), some (.int v3), some (.int v4), none] [.int s0] h := by
  unfold R_104_41 at e
  refine k_104_41 (fun c => ?_) (fun c => ?_)
  · rw [if_pos c] at e; exact r_104_72 hd hq hr_22 e
  · rw [if_neg c] at e; exact r_104_49 hd hq hr_22 e
noncomputable def R_104_36 (rec_22 : Int32 → Int32 → Int32 → Int32 → Hp → Option (Int32 × Hp)) (v1 : Int32) (v2 : Int32) (v3 : Int32) (v4 : Int32) (h : Hp) : Option (Int32 × Hp) := bndI (S_105 v4 h) (R_104_41 rec_22 v1 v2 v3 v4)
theorem r_104_36 {X : GX} {d : Nat} {r : Int32 × Hp} (hd : 4 ≤ d) (hq : RtX X (some (.int r.1)) r.2) {rec_22 : Int32 → Int32 → Int32 → Int32 → Hp → Option (Int32 × Hp)} (hr_22 : ∀ {v1 : Int32} {v2 : Int32} {v3 : Int32} {v4 : Int32} {h : Hp}, rec_22 v1 v2 v3 v4 h = some r → G X d 104 22 [some (.ref 0), some (.int v1), some (.int v2), some (.int v3), some (.int v4), none] [] h) {h : Hp} {v1 : Int32} {v2 : Int32} {v3 : Int32} {v4 : Int32} (e : R_104_36 rec_22 v1 v2 v3 v4 h = some r) : G X d 104 36 [some (.ref 0), some (.int v1), some (.int v2), some (.int v3), some (.int v4), none] [] h := by
  unfold R_104_36 at e
  obtain ⟨x, h2, e1, e2⟩ := bndI_s e
  refine k_104_36 (by omega) (t_105 e1) ?_
  rintro _ _ ⟨rfl, rfl⟩
  exact r_104_41 hd hq hr_22 e2
noncomputable def R_104_22 (rec_22 : Int32 → Int32 → Int32 → Int32 → Hp → Option (Int32 × Hp)) (v1 : Int32) (v2 : Int32) (v3 : Int32) (v4 : Int32) (h : Hp) : Option (Int32 × Hp) := if (1 <<< ((h 1 7) &&& 31)) ≤ v4 then R_104_78 v2 h else R_104_36 rec_22 v1 v2 v3 v4 h
theorem r_104_22 {X : GX} {d : Nat} {r : Int32 × Hp} (hd : 4 ≤ d) (hq : RtX X (some (.int r.1)) r.2) {rec_22 : Int32 → Int32 → Int32 → Int32 → Hp → Option (Int32 × Hp)} (hr_22 : ∀ {v1 : Int32} {v2 : Int32} {v3 : Int32} {v4 : Int32} {h : Hp}, rec_22 v1 v2 v3 v4 h = some r → G X d 104 22 [some (.ref 0), some (.int v1), some (.int v2), some (.int v3), some (.int v4), none] [] h) {h : Hp} {v1 : Int32} {v2 : Int32} {v3 : Int32} {v4 : Int32} (e : R_104_22 rec_22 v1 v2 v3 v4 h = some r) : G X d 104 22 [some (.ref 0), some (.int v1), some (.int v2), some (.int v3), some (.int v4), none] [] h := by
  unfold R_104_22 at e
  refine k_104_22 (fun c => ?_) (fun c => ?_)
  · rw [if_pos c] at e; exact r_104_78 hd hq e
  · rw [if_neg c] at e; exact r_104_36 hd hq hr_22 e
noncomputable def H_104_22 : Nat → Int32 → Int32 → Int32 → Int32 → Hp → Option (Int32 × Hp)
  | 0, _, _, _, _, _ => none
  | n + 1, v1, v2, v3, v4, h => R_104_22 (H_104_22 n) v1 v2 v3 v4 h
theorem h_104_22 {X : GX} {d : Nat} {r : Int32 × Hp} (hd : 4 ≤ d) (hq : RtX X (some (.int r.1)) r.2) {n : Nat} {h : Hp} {v1 : Int32} {v2 : Int32} {v3 : Int32} {v4 : Int32} (e : H_104_22 n v1 v2 v3 v4 h = some r) : G X d 104 22 [some (.ref 0), some (.int v1), some (.int v2), some (.int v3), some (.int v4), none] [] h := by
  induction n generalizing v1 v2 v3 v4 h with
  | zero => cases e
  | succ n ih => exact r_104_22 hd hq (fun e => ih e) e
noncomputable def R_104_13 (v1 : Int32) (h : Hp) : Option (Int32 × Hp) := H_104_22 fuL v1 ((-3)) 7 0 h
theorem r_104_13 {X : GX} {d : Nat} {r : Int32 × Hp} (hd : 4 ≤ d) (hq : RtX X (some (.int r.1)) r.2) {h : Hp} {v1 : Int32} (e : R_104_13 v1 h = some r) : G X d 104 13 [some (.ref 0), some (.int v1), none, none, none, none] [] h := by
  unfold R_104_13 at e
  exact k_104_13 (h_104_22 hd hq e)
noncomputable def R_104_11 (h : Hp) : Option (Int32 × Hp) := some (((-1)), h)
theorem r_104_11 {X : GX} {d : Nat} {r : Int32 × Hp} (hd : 4 ≤ d) (hq : RtX X (some (.int r.1)) r.2) {h : Hp} (e : R_104_11 h = some r) : G X d 104 11 [none, none, none, none, none, none] [] h := by
  unfold R_104_11 at e
  rw [← Option.some.inj e] at hq
  exact k_104_11 hq
noncomputable def R_104_8 (v1 : Int32) (s0 : Int32) (h : Hp) : Option (Int32 × Hp) := if s0 = 0 then R_104_11 h else R_104_13 v1 h
theorem r_104_8 {X : GX} {d : Nat} {r : Int32 × Hp} (hd : 4 ≤ d) (hq : RtX X (some (.int r.1)) r.2) {h : Hp} {v1 : Int32} {s0 : Int32} (e : R_104_8 v1 s0 h = some r) : G X d 104 8 [some (.ref 0), some (.int v1), none, none, none, none] [.int s0] h := by
  unfold R_104_8 at e
  refine k_104_8 (fun c => ?_) (fun c => ?_)
  · rw [if_neg c] at e; exact r_104_13 hd hq e
  · rw [if_pos c] at e; exact r_104_11 hd hq e
noncomputable def R_104_0 (v1 : Int32) (h : Hp) : Option (Int32 × Hp) := bndI (S_11 v1 0 999 h) (R_104_8 v1)
theorem r_104_0 {X : GX} {d : Nat} {r : Int32 × Hp} (hd : 4 ≤ d) (hq : RtX X (some (.int r.1)) r.2) {h : Hp} {v1 : Int32} (e : R_104_0 v1 h = some r) : G X d 104 0 [some (.ref 0), some (.int v1), none, none, none, none] [] h := by
  unfold R_104_0 at e
  obtain ⟨x, h2, e1, e2⟩ := bndI_s e
  refine k_104_0 (by omega) (t_11 e1) ?_
  rintro _ _ ⟨rfl, rfl⟩
  exact r_104_8 hd hq e2
noncomputable def S_104 (v1 : Int32) (h : Hp) : Option (Int32 × Hp) := R_104_0 v1 h
set_option maxRecDepth 100000 in
theorem t_104 {v1 : Int32} {h : Hp} {r : Int32 × Hp} (e : S_104 v1 h = some r) : CI 4 104 [.ref 0, .int v1] h (fun x g => x = r.1 ∧ g = r.2) := by
  refine C.of mo_104 (Nat.le_of_ble_eq_true rfl) (fun X hq => ?_)
  exact r_104_0 (Nat.le_refl _) (hq _ _ ⟨_, rfl, rfl, rfl⟩) e
/-! 108 PlayedTruth.isPlanned(I)Z -/
noncomputable def R_108_6 (s0 : Int32) (h : Hp) : Option (Int32 × Hp) := gd (s0 = 0 ∨ s0 = 1) (some (s0, h))
theorem r_108_6 {X : GX} {d : Nat} {r : Int32 × Hp} (hd : 2 ≤ d) (hq : RtX X (some (.int r.1)) r.2) {h : Hp} {s0 : Int32} (e : R_108_6 s0 h = some r) : G X d 108 6 [none] [.int s0] h := by
  unfold R_108_6 at e
  have g := gd_s e; clear e; obtain ⟨z0, e⟩ := g
  rw [← Option.some.inj e] at hq
  exact k_108_6 z0 hq
noncomputable def R_108_0 (v0 : Int32) (h : Hp) : Option (Int32 × Hp) := bndI (S_11 v0 0 4 h) (R_108_6)
theorem r_108_0 {X : GX} {d : Nat} {r : Int32 × Hp} (hd : 2 ≤ d) (hq : RtX X (some (.int r.1)) r.2) {h : Hp} {v0 : Int32} (e : R_108_0 v0 h = some r) : G X d 108 0 [some (.int v0)] [] h := by
  unfold R_108_0 at e
  obtain ⟨x, h2, e1, e2⟩ := bndI_s e
  refine k_108_0 (by omega) (t_11 e1) ?_
  rintro _ _ ⟨rfl, rfl⟩
  exact r_108_6 hd hq e2
noncomputable def S_108 (v0 : Int32) (h : Hp) : Option (Int32 × Hp) := R_108_0 v0 h
set_option maxRecDepth 100000 in
theorem t_108 {v0 : Int32} {h : Hp} {r : Int32 × Hp} (e : S_108 v0 h = some r) : CI 2 108 [.int v0] h (fun x g => x = r.1 ∧ g = r.2) := by
  refine C.of mo_108 (Nat.le_of_ble_eq_true rfl) (fun X hq => ?_)
  exact r_108_0 (Nat.le_refl _) (hq _ _ ⟨_, rfl, rfl, rfl⟩) e
/-! 110 PlayedTruth$Ahead.nightsOf(I)I -/
noncomputable def R_110_0 (v1 : Int32) (h : Hp) : Option (Int32 × Hp) := some ((if 0 < (if ((h 1 8) - (h 13 3)) < v1 then ((h 1 8) - (h 13 3)) else v1) then (if ((h 1 8) - (h 13 3)) < v1 then ((h 1 8) - (h 13 3)) else v1) else 0), h)
theorem r_110_0 {X : GX} {d : Nat} {r : Int32 × Hp} (hd : 1 ≤ d) (hq : RtX X (some (.int r.1)) r.2) {h : Hp} {v1 : Int32} (e : R_110_0 v1 h = some r) : G X d 110 0 [some (.ref 31), some (.int v1)] [] h := by
  unfold R_110_0 at e
  rw [← Option.some.inj e] at hq
  exact k_110_0 (by omega) hq
noncomputable def S_110 (v1 : Int32) (h : Hp) : Option (Int32 × Hp) := R_110_0 v1 h
set_option maxRecDepth 100000 in
theorem t_110 {v1 : Int32} {h : Hp} {r : Int32 × Hp} (e : S_110 v1 h = some r) : CI 1 110 [.ref 31, .int v1] h (fun x g => x = r.1 ∧ g = r.2) := by
  refine C.of mo_110 (Nat.le_of_ble_eq_true rfl) (fun X hq => ?_)
  exact r_110_0 (Nat.le_refl _) (hq _ _ ⟨_, rfl, rfl, rfl⟩) e
/-! 112 PlayedTruth$Ahead.weighPlan(LPlayedTruth$Moment;I)V -/
noncomputable def R_112_101 (v1 : Nat) (h : Hp) : Option (Int32 × Hp) := gd (sh v1 = (1, 3)) (some (0, (wr h 31 10 ((h 31 10) ||| (h v1 2)))))
theorem r_112_101 {X : GX} {d : Nat} {r : Int32 × Hp} (hd : 1 ≤ d) (hq : RtX X none r.2) {h : Hp} {v1 : Nat} (e : R_112_101 v1 h = some r) : G X d 112 101 [some (.ref 31), some (.ref v1), none, none] [] h := by
  unfold R_112_101 at e
  have g := gd_s e; clear e; obtain ⟨o0, e⟩ := g
  rw [← Option.some.inj e] at hq
  exact k_112_101 o0 hq
noncomputable def R_112_96 (v1 : Nat) (v2 : Int32) (h : Hp) : Option (Int32 × Hp) := gd (sh v1 = (1, 3)) (some (0, (wr (wr h 31 9 v2) 31 10 (((wr h 31 9 v2) 31 10) ||| ((wr h 31 9 v2) v1 2)))))
theorem r_112_96 {X : GX} {d : Nat} {r : Int32 × Hp} (hd : 1 ≤ d) (hq : RtX X none r.2) {h : Hp} {v1 : Nat} {v2 : Int32} (e : R_112_96 v1 v2 h = some r) : G X d 112 96 [some (.ref 31), some (.ref v1), some (.int v2), none] [] h := by
  unfold R_112_96 at e
  have g := gd_s e; clear e; obtain ⟨o0, e⟩ := g
  rw [← Option.some.inj e] at hq
  exact k_112_96 o0 hq
noncomputable def R_112_88 (v1 : Nat) (v2 : Int32) (h : Hp) : Option (Int32 × Hp) := if (h 31 9) ≤ v2 then R_112_101 v1 h else R_112_96 v1 v2 h
theorem r_112_88 {X : GX} {d : Nat} {r : Int32 × Hp} (hd : 1 ≤ d) (hq : RtX X none r.2) {h : Hp} {v1 : Nat} {v2 : Int32} (e : R_112_88 v1 v2 h = some r) : G X d 112 88 [some (.ref 31), some (.ref v1), some (.int v2), none] [] h := by
  unfold R_112_88 at e
  refine k_112_88 (fun c => ?_) (fun c => ?_)
  · rw [if_pos c] at e; exact r_112_101 hd hq e
  · rw [if_neg c] at e; exact r_112_96 hd hq e
noncomputable def R_112_79 (v1 : Nat) (v2 : Int32) (h : Hp) : Option (Int32 × Hp) := if (h 31 9) = ((-3)) then R_112_96 v1 v2 h else R_112_88 v1 v2 h
theorem r_112_79 {X : GX} {d : Nat} {r : Int32 × Hp} (hd : 1 ≤ d) (hq : RtX X none r.2) {h : Hp} {v1 : Nat} {v2 : Int32} (e : R_112_79 v1 v2 h = some r) : G X d 112 79 [some (.ref 31), some (.ref v1), some (.int v2), none] [] h := by
  unfold R_112_79 at e
  refine k_112_79 (fun c => ?_) (fun c => ?_)
  · rw [if_pos c] at e; exact r_112_96 hd hq e
  · rw [if_neg c] at e; exact r_112_88 hd hq e
noncomputable def R_112_63 (v1 : Nat) (v2 : Int32) (h : Hp) : Option (Int32 × Hp) := gd (sh v1 = (1, 3)) (if ((h v1 2) &&& (h 31 4)) = (h 31 4) then R_112_79 v1 v2 h else R_112_101 v1 h)
theorem r_112_63 {X : GX} {d : Nat} {r : Int32 × Hp} (hd : 1 ≤ d) (hq : RtX X none r.2) {h : Hp} {v1 : Nat} {v2 : Int32} (e : R_112_63 v1 v2 h = some r) : G X d 112 63 [some (.ref 31), some (.ref v1), some (.int v2), none] [] h := by
  unfold R_112_63 at e
  have g := gd_s e; clear e; obtain ⟨o0, e⟩ := g
  refine k_112_63 o0 (fun c => ?_) (fun c => ?_)
  · rw [if_neg c] at e; exact r_112_101 hd hq e
  · rw [if_pos c] at e; exact r_112_79 hd hq e
noncomputable def R_112_53 (v1 : Nat) (v2 : Int32) (h : Hp) : Option (Int32 × Hp) := gd (sh v1 = (1, 3)) (if (((wr h 31 7 ((h 31 7) + 1)) v1 2) &&& ((wr h 31 7 ((h 31 7) + 1)) 31 4)) = ((wr h 31 7 ((h 31 7) + 1)) 31 4) then R_112_79 v1 v2 ((wr h 31 7 ((h 31 7) + 1))) else R_112_101 v1 ((wr h 31 7 ((h 31 7) + 1))))
theorem r_112_53 {X : GX} {d : Nat} {r : Int32 × Hp} (hd : 1 ≤ d) (hq : RtX X none r.2) {h : Hp} {v1 : Nat} {v2 : Int32} (e : R_112_53 v1 v2 h = some r) : G X d 112 53 [some (.ref 31), some (.ref v1), some (.int v2), none] [] h := by
  unfold R_112_53 at e
  have g := gd_s e; clear e; obtain ⟨o0, e⟩ := g
  refine k_112_53 o0 (fun c => ?_) (fun c => ?_)
  · rw [if_neg c] at e; exact r_112_101 hd hq e
  · rw [if_pos c] at e; exact r_112_79 hd hq e
noncomputable def R_112_45 (v1 : Nat) (v2 : Int32) (v3 : Int32) (h : Hp) : Option (Int32 × Hp) := if v3 = (h 31 6) then R_112_53 v1 v2 h else R_112_63 v1 v2 h
theorem r_112_45 {X : GX} {d : Nat} {r : Int32 × Hp} (hd : 1 ≤ d) (hq : RtX X none r.2) {h : Hp} {v1 : Nat} {v2 : Int32} {v3 : Int32} (e : R_112_45 v1 v2 v3 h = some r) : G X d 112 45 [some (.ref 31), some (.ref v1), some (.int v2), some (.int v3)] [] h := by
  unfold R_112_45 at e
  refine k_112_45 (fun c => ?_) (fun c => ?_)
  · rw [if_neg c] at e; exact r_112_63 hd hq e
  · rw [if_pos c] at e; exact r_112_53 hd hq e
noncomputable def R_112_21 (v1 : Nat) (v2 : Int32) (v3 : Int32) (h : Hp) : Option (Int32 × Hp) := if v3 = ((wrA (wr (wr h 31 6 v3) 31 7 0) 34 (va_cpy ((wr (wr h 31 6 v3) 31 7 0) 33) ((wr (wr h 31 6 v3) 31 7 0) 34) (Int32.toNatClampNeg 0) (Int32.toNatClampNeg 0) (Int32.toNatClampNeg 4))) 31 6) then R_112_53 v1 v2 ((wrA (wr (wr h 31 6 v3) 31 7 0) 34 (va_cpy ((wr (wr h 31 6 v3) 31 7 0) 33) ((wr (wr h 31 6 v3) 31 7 0) 34) (Int32.toNatClampNeg 0) (Int32.toNatClampNeg 0) (Int32.toNatClampNeg 4)))) else R_112_63 v1 v2 ((wrA (wr (wr h 31 6 v3) 31 7 0) 34 (va_cpy ((wr (wr h 31 6 v3) 31 7 0) 33) ((wr (wr h 31 6 v3) 31 7 0) 34) (Int32.toNatClampNeg 0) (Int32.toNatClampNeg 0) (Int32.toNatClampNeg 4))))
set_option maxRecDepth 100000 in
theorem r_112_21 {X : GX} {d : Nat} {r : Int32 × Hp} (hd : 1 ≤ d) (hq : RtX X none r.2) {h : Hp} {v1 : Nat} {v2 : Int32} {v3 : Int32} (e : R_112_21 v1 v2 v3 h = some r) : G X d 112 21 [some (.ref 31), some (.ref v1), some (.int v2), some (.int v3)] [] h := by
  unfold R_112_21 at e
  refine k_112_21 (by omega) (fun c => ?_) (fun c => ?_)
  · rw [if_neg c] at e; exact r_112_63 hd hq e
  · rw [if_pos c] at e; exact r_112_53 hd hq e
noncomputable def R_112_0 (v1 : Nat) (v2 : Int32) (h : Hp) : Option (Int32 × Hp) := gd (sh v1 = (1, 3)) (if ((h v1 4) - (h 13 4)) ≤ (h 31 6) then R_112_45 v1 v2 ((h v1 4) - (h 13 4)) h else R_112_21 v1 v2 ((h v1 4) - (h 13 4)) h)
theorem r_112_0 {X : GX} {d : Nat} {r : Int32 × Hp} (hd : 1 ≤ d) (hq : RtX X none r.2) {h : Hp} {v1 : Nat} {v2 : Int32} (e : R_112_0 v1 v2 h = some r) : G X d 112 0 [some (.ref 31), some (.ref v1), some (.int v2), none] [] h := by
  unfold R_112_0 at e
  have g := gd_s e; clear e; obtain ⟨o0, e⟩ := g
  refine k_112_0 o0 (fun c => ?_) (fun c => ?_)
  · rw [if_pos c] at e; exact r_112_45 hd hq e
  · rw [if_neg c] at e; exact r_112_21 hd hq e
noncomputable def S_112 (v1 : Nat) (v2 : Int32) (h : Hp) : Option (Int32 × Hp) := R_112_0 v1 v2 h
set_option maxRecDepth 100000 in
theorem t_112 {v1 : Nat} {v2 : Int32} {h : Hp} {r : Int32 × Hp} (e : S_112 v1 v2 h = some r) : CV 1 112 [.ref 31, .ref v1, .int v2] h (fun g => g = r.2) := by
  refine C.of mo_112 (Nat.le_of_ble_eq_true rfl) (fun X hq => ?_)
  exact r_112_0 (Nat.le_refl _) (hq _ _ ⟨rfl, rfl⟩) e
/-! 111 PlayedTruth$Ahead.goThroughPlans(II)V -/
noncomputable def R_111_24 (c_111 : Int32 → Int32 → Hp → Option (Int32 × Hp)) (h : Hp) : Option (Int32 × Hp) := some (0, h)
theorem r_111_24 {X : GX} {d : Nat} {r : Int32 × Hp} {c_111 : Int32 → Int32 → Hp → Option (Int32 × Hp)} {dg : Nat} (hd : 6 ≤ d) (hgd : dg < d) (hc_111 : ∀ {v1 : Int32} {v2 : Int32} {h : Hp} {r : Int32 × Hp}, c_111 v1 v2 h = some r → CV dg 111 [.ref 31, .int v1, .int v2] h (fun g => g = r.2)) (hq : RtX X none r.2) {h : Hp} (e : R_111_24 c_111 h = some r) : G X d 111 24 [none, none, none, none, none] [] h := by
  unfold R_111_24 at e
  rw [← Option.some.inj e] at hq
  exact k_111_24 hq
noncomputable def R_111_13 (c_111 : Int32 → Int32 → Hp → Option (Int32 × Hp)) (v1 : Int32) (v2 : Int32) (h : Hp) : Option (Int32 × Hp) := gd (vp_in v1 5) (bndV (S_112 (35 + 3 * Int32.toNatClampNeg v1) v2 h) (R_111_24 c_111))
theorem r_111_13 {X : GX} {d : Nat} {r : Int32 × Hp} {c_111 : Int32 → Int32 → Hp → Option (Int32 × Hp)} {dg : Nat} (hd : 6 ≤ d) (hgd : dg < d) (hc_111 : ∀ {v1 : Int32} {v2 : Int32} {h : Hp} {r : Int32 × Hp}, c_111 v1 v2 h = some r → CV dg 111 [.ref 31, .int v1, .int v2] h (fun g => g = r.2)) (hq : RtX X none r.2) {h : Hp} {v1 : Int32} {v2 : Int32} (e : R_111_13 c_111 v1 v2 h = some r) : G X d 111 13 [some (.ref 31), some (.int v1), some (.int v2), none, none] [] h := by
  unfold R_111_13 at e
  have g := gd_s e; clear e; obtain ⟨b0, e⟩ := g
  obtain ⟨x, h2, e1, e2⟩ := bndV_s e
  refine k_111_13 b0 (by omega) (t_112 e1) ?_
  rintro _ rfl
  exact r_111_24 hd hgd hc_111 hq e2
noncomputable def R_111_103 (c_111 : Int32 → Int32 → Hp → Option (Int32 × Hp)) (h : Hp) : Option (Int32 × Hp) := some (0, h)
theorem r_111_103 {X : GX} {d : Nat} {r : Int32 × Hp} {c_111 : Int32 → Int32 → Hp → Option (Int32 × Hp)} {dg : Nat} (hd : 6 ≤ d) (hgd : dg < d) (hc_111 : ∀ {v1 : Int32} {v2 : Int32} {h : Hp} {r : Int32 × Hp}, c_111 v1 v2 h = some r → CV dg 111 [.ref 31, .int v1, .int v2] h (fun g => g = r.2)) (hq : RtX X none r.2) {h : Hp} (e : R_111_103 c_111 h = some r) : G X d 111 103 [none, none, none, none, none] [] h := by
  unfold R_111_103 at e
  rw [← Option.some.inj e] at hq
  exact k_111_103 hq
noncomputable def R_111_97 (c_111 : Int32 → Int32 → Hp → Option (Int32 × Hp)) (rec_37 : Int32 → Int32 → Nat → Int32 → Hp → Option (Int32 × Hp)) (v1 : Int32) (v2 : Int32) (v3 : Nat) (v4 : Int32) (h : Hp) : Option (Int32 × Hp) := rec_37 v1 v2 v3 (v4 + 1) h
theorem r_111_97 {X : GX} {d : Nat} {r : Int32 × Hp} {c_111 : Int32 → Int32 → Hp → Option (Int32 × Hp)} {dg : Nat} (hd : 6 ≤ d) (hgd : dg < d) (hc_111 : ∀ {v1 : Int32} {v2 : Int32} {h : Hp} {r : Int32 × Hp}, c_111 v1 v2 h = some r → CV dg 111 [.ref 31, .int v1, .int v2] h (fun g => g = r.2)) (hq : RtX X none r.2) {rec_37 : Int32 → Int32 → Nat → Int32 → Hp → Option (Int32 × Hp)} (hr_37 : ∀ {v1 : Int32} {v2 : Int32} {v3 : Nat} {v4 : Int32} {h : Hp}, rec_37 v1 v2 v3 v4 h = some r → G X d 111 37 [some (.ref 31), some (.int v1), some (.int v2), some (.ref v3), some (.int v4)] [] h) {h : Hp} {v1 : Int32} {v2 : Int32} {v3 : Nat} {v4 : Int32} (e : R_111_97 c_111 rec_37 v1 v2 v3 v4 h = some r) : G X d 111 97 [some (.ref 31), some (.int v1), some (.int v2), some (.ref v3), some (.int v4)] [] h := by
  unfold R_111_97 at e
  exact k_111_97 (hr_37 e)
noncomputable def R_111_91 (c_111 : Int32 → Int32 → Hp → Option (Int32 × Hp)) (rec_37 : Int32 → Int32 → Nat → Int32 → Hp → Option (Int32 × Hp)) (v1 : Int32) (v2 : Int32) (v3 : Nat) (v4 : Int32) (s1 : Nat) (s0 : Int32) (h : Hp) : Option (Int32 × Hp) := gd (sh s1 = (1, 1) ∧ s1 = 31) (bndV (c_111 s0 (v2 + 1) h) (R_111_97 c_111 rec_37 v1 v2 v3 v4))
theorem r_111_91 {X : GX} {d : Nat} {r : Int32 × Hp} {c_111 : Int32 → Int32 → Hp → Option (Int32 × Hp)} {dg : Nat} (hd : 6 ≤ d) (hgd : dg < d) (hc_111 : ∀ {v1 : Int32} {v2 : Int32} {h : Hp} {r : Int32 × Hp}, c_111 v1 v2 h = some r → CV dg 111 [.ref 31, .int v1, .int v2] h (fun g => g = r.2)) (hq : RtX X none r.2) {rec_37 : Int32 → Int32 → Nat → Int32 → Hp → Option (Int32 × Hp)} (hr_37 : ∀ {v1 : Int32} {v2 : Int32} {v3 : Nat} {v4 : Int32} {h : Hp}, rec_37 v1 v2 v3 v4 h = some r → G X d 111 37 [some (.ref 31), some (.int v1), some (.int v2), some (.ref v3), some (.int v4)] [] h) {h : Hp} {v1 : Int32} {v2 : Int32} {v3 : Nat} {v4 : Int32} {s1 : Nat} {s0 : Int32} (e : R_111_91 c_111 rec_37 v1 v2 v3 v4 s1 s0 h = some r) : G X d 111 91 [some (.ref 31), some (.int v1), some (.int v2), some (.ref v3), some (.int v4)] [.int s0, .ref s1] h := by
  unfold R_111_91 at e
  have g := gd_s e; clear e; obtain ⟨⟨o0, q0⟩, e⟩ := g
  subst q0
  obtain ⟨x, h2, e1, e2⟩ := bndV_s e
  refine k_111_91 o0 hgd (hc_111 e1) ?_
  rintro _ rfl
  exact r_111_97 hd hgd hc_111 hq hr_37 e2
noncomputable def R_111_87 (c_111 : Int32 → Int32 → Hp → Option (Int32 × Hp)) (rec_37 : Int32 → Int32 → Nat → Int32 → Hp → Option (Int32 × Hp)) (v1 : Int32) (v2 : Int32) (v3 : Nat) (v4 : Int32) (s1 : Nat) (s0 : Int32) (h : Hp) : Option (Int32 × Hp) := gd (sh s1 = (1, 1) ∧ s1 = 31) (bndV (c_111 s0 v2 h) (R_111_97 c_111 rec_37 v1 v2 v3 v4))
theorem r_111_87 {X : GX} {d : Nat} {r : Int32 × Hp} {c_111 : Int32 → Int32 → Hp → Option (Int32 × Hp)} {dg : Nat} (hd : 6 ≤ d) (hgd : dg < d) (hc_111 : ∀ {v1 : Int32} {v2 : Int32} {h : Hp} {r : Int32 × Hp}, c_111 v1 v2 h = some r → CV dg 111 [.ref 31, .int v1, .int v2] h (fun g => g = r.2)) (hq : RtX X none r.2) {rec_37 : Int32 → Int32 → Nat → Int32 → Hp → Option (Int32 × Hp)} (hr_37 : ∀ {v1 : Int32} {v2 : Int32} {v3 : Nat} {v4 : Int32} {h : Hp}, rec_37 v1 v2 v3 v4 h = some r → G X d 111 37 [some (.ref 31), some (.int v1), some (.int v2), some (.ref v3), some (.int v4)] [] h) {h : Hp} {v1 : Int32} {v2 : Int32} {v3 : Nat} {v4 : Int32} {s1 : Nat} {s0 : Int32} (e : R_111_87 c_111 rec_37 v1 v2 v3 v4 s1 s0 h = some r) : G X d 111 87 [some (.ref 31), some (.int v1), some (.int v2), some (.ref v3), some (.int v4)] [.int s0, .ref s1] h := by
  unfold R_111_87 at e
  have g := gd_s e; clear e; obtain ⟨⟨o0, q0⟩, e⟩ := g
  subst q0
  obtain ⟨x, h2, e1, e2⟩ := bndV_s e
  refine k_111_87 o0 hgd (hc_111 e1) ?_
  rintro _ rfl
  exact r_111_97 hd hgd hc_111 hq hr_37 e2
noncomputable def R_111_69 (c_111 : Int32 → Int32 → Hp → Option (Int32 × Hp)) (rec_37 : Int32 → Int32 → Nat → Int32 → Hp → Option (Int32 × Hp)) (v1 : Int32) (v2 : Int32) (v3 : Nat) (v4 : Int32) (s0 : Int32) (h : Hp) : Option (Int32 × Hp) := gd (IA 33 v1) (if v4 = 0 then R_111_87 c_111 rec_37 v1 v2 v3 v4 31 (v1 + 1) ((wr h 33 (Int32.toNatClampNeg v1) v4)) else R_111_91 c_111 rec_37 v1 v2 v3 v4 31 (v1 + 1) ((wr h 33 (Int32.toNatClampNeg v1) v4)))
theorem r_111_69 {X : GX} {d : Nat} {r : Int32 × Hp} {c_111 : Int32 → Int32 → Hp → Option (Int32 × Hp)} {dg : Nat} (hd : 6 ≤ d) (hgd : dg < d) (hc_111 : ∀ {v1 : Int32} {v2 : Int32} {h : Hp} {r : Int32 × Hp}, c_111 v1 v2 h = some r → CV dg 111 [.ref 31, .int v1, .int v2] h (fun g => g = r.2)) (hq : RtX X none r.2) {rec_37 : Int32 → Int32 → Nat → Int32 → Hp → Option (Int32 × Hp)} (hr_37 : ∀ {v1 : Int32} {v2 : Int32} {v3 : Nat} {v4 : Int32} {h : Hp}, rec_37 v1 v2 v3 v4 h = some r → G X d 111 37 [some (.ref 31), some (.int v1), some (.int v2), some (.ref v3), some (.int v4)] [] h) {h : Hp} {v1 : Int32} {v2 : Int32} {v3 : Nat} {v4 : Int32} {s0 : Int32} (e : R_111_69 c_111 rec_37 v1 v2 v3 v4 s0 h = some r) : G X d 111 69 [some (.ref 31), some (.int v1), some (.int v2), some (.ref v3), some (.int v4)] [.int s0] h := by
  unfold R_111_69 at e
  have g := gd_s e; clear e; obtain ⟨b0, e⟩ := g
  refine k_111_69 b0 (fun c => ?_) (fun c => ?_)
  · rw [if_neg c] at e; exact r_111_91 hd hgd hc_111 hq hr_37 e
  · rw [if_pos c] at e; exact r_111_87 hd hgd hc_111 hq hr_37 e
noncomputable def R_111_59 (c_111 : Int32 → Int32 → Hp → Option (Int32 × Hp)) (rec_37 : Int32 → Int32 → Nat → Int32 → Hp → Option (Int32 × Hp)) (v1 : Int32) (v2 : Int32) (v3 : Nat) (v4 : Int32) (h : Hp) : Option (Int32 × Hp) := bndI (S_81 v3 v4 h) (R_111_69 c_111 rec_37 v1 v2 v3 v4)
theorem r_111_59 {X : GX} {d : Nat} {r : Int32 × Hp} {c_111 : Int32 → Int32 → Hp → Option (Int32 × Hp)} {dg : Nat} (hd : 6 ≤ d) (hgd : dg < d) (hc_111 : ∀ {v1 : Int32} {v2 : Int32} {h : Hp} {r : Int32 × Hp}, c_111 v1 v2 h = some r → CV dg 111 [.ref 31, .int v1, .int v2] h (fun g => g = r.2)) (hq : RtX X none r.2) {rec_37 : Int32 → Int32 → Nat → Int32 → Hp → Option (Int32 × Hp)} (hr_37 : ∀ {v1 : Int32} {v2 : Int32} {v3 : Nat} {v4 : Int32} {h : Hp}, rec_37 v1 v2 v3 v4 h = some r → G X d 111 37 [some (.ref 31), some (.int v1), some (.int v2), some (.ref v3), some (.int v4)] [] h) {h : Hp} {v1 : Int32} {v2 : Int32} {v3 : Nat} {v4 : Int32} (e : R_111_59 c_111 rec_37 v1 v2 v3 v4 h = some r) : G X d 111 59 [some (.ref 31), some (.int v1), some (.int v2), some (.ref v3), some (.int v4)] [] h := by
  unfold R_111_59 at e
  obtain ⟨x, h2, e1, e2⟩ := bndI_s e
  refine k_111_59 (by omega) (t_81 e1) ?_
  rintro _ _ ⟨rfl, rfl⟩
  exact r_111_69 hd hgd hc_111 hq hr_37 e2
noncomputable def R_111_49 (c_111 : Int32 → Int32 → Hp → Option (Int32 × Hp)) (rec_37 : Int32 → Int32 → Nat → Int32 → Hp → Option (Int32 × Hp)) (v1 : Int32) (v2 : Int32) (v3 : Nat) (v4 : Int32) (h : Hp) : Option (Int32 × Hp) := gd (vp_in v1 5 ∧ sh v3 = (1, 3)) (bndV (S_88 v3 (35 + 3 * Int32.toNatClampNeg v1) h) (R_111_59 c_111 rec_37 v1 v2 v3 v4))
theorem r_111_49 {X : GX} {d : Nat} {r : Int32 × Hp} {c_111 : Int32 → Int32 → Hp → Option (Int32 × Hp)} {dg : Nat} (hd : 6 ≤ d) (hgd : dg < d) (hc_111 : ∀ {v1 : Int32} {v2 : Int32} {h : Hp} {r : Int32 × Hp}, c_111 v1 v2 h = some r → CV dg 111 [.ref 31, .int v1, .int v2] h (fun g => g = r.2)) (hq : RtX X none r.2) {rec_37 : Int32 → Int32 → Nat → Int32 → Hp → Option (Int32 × Hp)} (hr_37 : ∀ {v1 : Int32} {v2 : Int32} {v3 : Nat} {v4 : Int32} {h : Hp}, rec_37 v1 v2 v3 v4 h = some r → G X d 111 37 [some (.ref 31), some (.int v1), some (.int v2), some (.ref v3), some (.int v4)] [] h) {h : Hp} {v1 : Int32} {v2 : Int32} {v3 : Nat} {v4 : Int32} (e : R_111_49 c_111 rec_37 v1 v2 v3 v4 h = some r) : G X d 111 49 [some (.ref 31), some (.int v1), some (.int v2), some (.ref v3), some (.int v4)] [] h := by
  unfold R_111_49 at e
  have g := gd_s e; clear e; obtain ⟨⟨b0, o1⟩, e⟩ := g
  obtain ⟨x, h2, e1, e2⟩ := bndV_s e
  refine k_111_49 b0 o1 (by omega) (t_88 e1) ?_
  rintro _ rfl
  exact r_111_59 hd hgd hc_111 hq hr_37 e2
noncomputable def R_111_37 (c_111 : Int32 → Int32 → Hp → Option (Int32 × Hp)) (rec_37 : Int32 → Int32 → Nat → Int32 → Hp → Option (Int32 × Hp)) (v1 : Int32) (v2 : Int32) (v3 : Nat) (v4 : Int32) (h : Hp) : Option (Int32 × Hp) := if (h 1 7) < v4 then R_111_103 c_111 h else R_111_49 c_111 rec_37 v1 v2 v3 v4 h
theorem r_111_37 {X : GX} {d : Nat} {r : Int32 × Hp} {c_111 : Int32 → Int32 → Hp → Option (Int32 × Hp)} {dg : Nat} (hd : 6 ≤ d) (hgd : dg < d) (hc_111 : ∀ {v1 : Int32} {v2 : Int32} {h : Hp} {r : Int32 × Hp}, c_111 v1 v2 h = some r → CV dg 111 [.ref 31, .int v1, .int v2] h (fun g => g = r.2)) (hq : RtX X none r.2) {rec_37 : Int32 → Int32 → Nat → Int32 → Hp → Option (Int32 × Hp)} (hr_37 : ∀ {v1 : Int32} {v2 : Int32} {v3 : Nat} {v4 : Int32} {h : Hp}, rec_37 v1 v2 v3 v4 h = some r → G X d 111 37 [some (.ref 31), some (.int v1), some (.int v2), some (.ref v3), some (.int v4)] [] h) {h : Hp} {v1 : Int32} {v2 : Int32} {v3 : Nat} {v4 : Int32} (e : R_111_37 c_111 rec_37 v1 v2 v3 v4 h = some r) : G X d 111 37 [some (.ref 31), some (.int v1), some (.int v2), some (.ref v3), some (.int v4)] [] h := by
  unfold R_111_37 at e
  refine k_111_37 (fun c => ?_) (fun c => ?_)
  · rw [if_pos c] at e; exact r_111_103 hd hgd hc_111 hq e
  · rw [if_neg c] at e; exact r_111_49 hd hgd hc_111 hq hr_37 e
noncomputable def H_111_37 (c_111 : Int32 → Int32 → Hp → Option (Int32 × Hp)) : Nat → Int32 → Int32 → Nat → Int32 → Hp → Option (Int32 × Hp)
  | 0, _, _, _, _, _ => none
  | n + 1, v1, v2, v3, v4, h => R_111_37 c_111 (H_111_37 c_111 n) v1 v2 v3 v4 h
theorem h_111_37 {X : GX} {d : Nat} {r : Int32 × Hp} {c_111 : Int32 → Int32 → Hp → Option (Int32 × Hp)} {dg : Nat} (hd : 6 ≤ d) (hgd : dg < d) (hc_111 : ∀ {v1 : Int32} {v2 : Int32} {h : Hp} {r : Int32 × Hp}, c_111 v1 v2 h = some r → CV dg 111 [.ref 31, .int v1, .int v2] h (fun g => g = r.2)) (hq : RtX X none r.2) {n : Nat} {h : Hp} {v1 : Int32} {v2 : Int32} {v3 : Nat} {v4 : Int32} (e : H_111_37 c_111 n v1 v2 v3 v4 h = some r) : G X d 111 37 [some (.ref 31), some (.int v1), some (.int v2), some (.ref v3), some (.int v4)] [] h := by
  induction n generalizing v1 v2 v3 v4 h with
  | zero => cases e
  | succ n ih => exact r_111_37 hd hgd hc_111 hq (fun e => ih e) e
noncomputable def R_111_25 (c_111 : Int32 → Int32 → Hp → Option (Int32 × Hp)) (v1 : Int32) (v2 : Int32) (h : Hp) : Option (Int32 × Hp) := gd (vp_in (v1 + 1) 5) (H_111_37 c_111 fuL v1 v2 (35 + 3 * Int32.toNatClampNeg (v1 + 1)) 0 h)
theorem r_111_25 {X : GX} {d : Nat} {r : Int32 × Hp} {c_111 : Int32 → Int32 → Hp → Option (Int32 × Hp)} {dg : Nat} (hd : 6 ≤ d) (hgd : dg < d) (hc_111 : ∀ {v1 : Int32} {v2 : Int32} {h : Hp} {r : Int32 × Hp}, c_111 v1 v2 h = some r → CV dg 111 [.ref 31, .int v1, .int v2] h (fun g => g = r.2)) (hq : RtX X none r.2) {h : Hp} {v1 : Int32} {v2 : Int32} (e : R_111_25 c_111 v1 v2 h = some r) : G X d 111 25 [some (.ref 31), some (.int v1), some (.int v2), none, none] [] h := by
  unfold R_111_25 at e
  have g := gd_s e; clear e; obtain ⟨b0, e⟩ := g
  exact k_111_25 b0 (h_111_37 hd hgd hc_111 hq e)
noncomputable def R_111_8 (c_111 : Int32 → Int32 → Hp → Option (Int32 × Hp)) (v1 : Int32) (v2 : Int32) (h : Hp) : Option (Int32 × Hp) := if v1 < 4 then R_111_25 c_111 v1 v2 h else R_111_13 c_111 v1 v2 h
theorem r_111_8 {X : GX} {d : Nat} {r : Int32 × Hp} {c_111 : Int32 → Int32 → Hp → Option (Int32 × Hp)} {dg : Nat} (hd : 6 ≤ d) (hgd : dg < d) (hc_111 : ∀ {v1 : Int32} {v2 : Int32} {h : Hp} {r : Int32 × Hp}, c_111 v1 v2 h = some r → CV dg 111 [.ref 31, .int v1, .int v2] h (fun g => g = r.2)) (hq : RtX X none r.2) {h : Hp} {v1 : Int32} {v2 : Int32} (e : R_111_8 c_111 v1 v2 h = some r) : G X d 111 8 [some (.ref 31), some (.int v1), some (.int v2), none, none] [] h := by
  unfold R_111_8 at e
  refine k_111_8 (fun c => ?_) (fun c => ?_)
  · rw [if_pos c] at e; exact r_111_25 hd hgd hc_111 hq e
  · rw [if_neg c] at e; exact r_111_13 hd hgd hc_111 hq e
noncomputable def R_111_0 (c_111 : Int32 → Int32 → Hp → Option (Int32 × Hp)) (v1 : Int32) (v2 : Int32) (h : Hp) : Option (Int32 × Hp) := if (h 31 5) ≤ v1 then R_111_13 c_111 v1 v2 h else R_111_8 c_111 v1 v2 h
theorem r_111_0 {X : GX} {d : Nat} {r : Int32 × Hp} {c_111 : Int32 → Int32 → Hp → Option (Int32 × Hp)} {dg : Nat} (hd : 6 ≤ d) (hgd : dg < d) (hc_111 : ∀ {v1 : Int32} {v2 : Int32} {h : Hp} {r : Int32 × Hp}, c_111 v1 v2 h = some r → CV dg 111 [.ref 31, .int v1, .int v2] h (fun g => g = r.2)) (hq : RtX X none r.2) {h : Hp} {v1 : Int32} {v2 : Int32} (e : R_111_0 c_111 v1 v2 h = some r) : G X d 111 0 [some (.ref 31), some (.int v1), some (.int v2), none, none] [] h := by
  unfold R_111_0 at e
  refine k_111_0 (fun c => ?_) (fun c => ?_)
  · rw [if_pos c] at e; exact r_111_13 hd hgd hc_111 hq e
  · rw [if_neg c] at e; exact r_111_8 hd hgd hc_111 hq e
noncomputable def SG_111 : Nat → (Int32 → Int32 → Hp → Option (Int32 × Hp))
  | 0 => (fun _ _ _ => none)
  | n + 1 => (fun v1 v2 h => R_111_0 (SG_111 n) v1 v2 h)
set_option maxRecDepth 100000 in
theorem tg_111 : ∀ n, (∀ {v1 : Int32} {v2 : Int32} {h : Hp} {r : Int32 × Hp}, (SG_111 n) v1 v2 h = some r → CV (6 + n) 111 [.ref 31, .int v1, .int v2] h (fun g => g = r.2)) := by
  intro n
  induction n with
  | zero => exact fun e => by cases e
  | succ n ih =>
    have i111 := @ih
    intro v1 v2 h r e
    · refine C.of mo_111 (Nat.le_of_ble_eq_true rfl) (fun X hq => ?_)
      exact r_111_0 (by omega) (show 6 + n < 6 + (n + 1) by omega) (fun e => i111 e) (hq _ _ ⟨rfl, rfl⟩) e
noncomputable def S_111 (v1 : Int32) (v2 : Int32) (h : Hp) : Option (Int32 × Hp) := (SG_111 60) v1 v2 h
theorem t_111 {v1 : Int32} {v2 : Int32} {h : Hp} {r : Int32 × Hp} (e : S_111 v1 v2 h = some r) : CV 66 111 [.ref 31, .int v1, .int v2] h (fun g => g = r.2) := (tg_111 60) e
/-! 109 PlayedTruth$Ahead.weighPlans(II)V -/
noncomputable def R_109_46 (h : Hp) : Option (Int32 × Hp) := some (0, h)
theorem r_109_46 {X : GX} {d : Nat} {r : Int32 × Hp} (hd : 67 ≤ d) (hq : RtX X none r.2) {h : Hp} (e : R_109_46 h = some r) : G X d 109 46 [none, none, none] [] h := by
  unfold R_109_46 at e
  rw [← Option.some.inj e] at hq
  exact k_109_46 hq
noncomputable def R_109_39 (s0 : Nat) (h : Hp) : Option (Int32 × Hp) := bndV (S_111 0 0 h) (R_109_46)
theorem r_109_39 {X : GX} {d : Nat} {r : Int32 × Hp} (hd : 67 ≤ d) (hq : RtX X none r.2) {h : Hp} {s0 : Nat} (e : R_109_39 s0 h = some r) : G X d 109 39 [some (.ref 31), none, none] [.ref s0] h := by
  unfold R_109_39 at e
  obtain ⟨x, h2, e1, e2⟩ := bndV_s e
  refine k_109_39 (by omega) (t_111 e1) ?_
  rintro _ rfl
  exact r_109_46 hd hq e2
noncomputable def R_109_6 (v2 : Int32) (s1 : Nat) (s0 : Int32) (h : Hp) : Option (Int32 × Hp) := gd (sh s1 = (1, 1)) (bndR (S_87 ((wr (wr (wr (wr (wr (wr h s1 5 s0) 31 4 v2) 31 6 ((-1))) 31 7 0) 31 9 ((-3))) 31 10 0))) (R_109_39))
theorem r_109_6 {X : GX} {d : Nat} {r : Int32 × Hp} (hd : 67 ≤ d) (hq : RtX X none r.2) {h : Hp} {v2 : Int32} {s1 : Nat} {s0 : Int32} (e : R_109_6 v2 s1 s0 h = some r) : G X d 109 6 [some (.ref 31), none, some (.int v2)] [.int s0, .ref s1] h := by
  unfold R_109_6 at e
  have g := gd_s e; clear e; obtain ⟨o0, e⟩ := g
  obtain ⟨x, h2, e1, e2⟩ := bndR_s e
  refine k_109_6 o0 (by omega) (t_87 e1) ?_
  rintro _ _ ⟨rfl, rfl⟩
  exact r_109_39 hd hq e2
noncomputable def R_109_0 (v1 : Int32) (v2 : Int32) (h : Hp) : Option (Int32 × Hp) := bndI (S_110 v1 h) (R_109_6 v2 31)
theorem r_109_0 {X : GX} {d : Nat} {r : Int32 × Hp} (hd : 67 ≤ d) (hq : RtX X none r.2) {h : Hp} {v1 : Int32} {v2 : Int32} (e : R_109_0 v1 v2 h = some r) : G X d 109 0 [some (.ref 31), some (.int v1), some (.int v2)] [] h := by
  unfold R_109_0 at e
  obtain ⟨x, h2, e1, e2⟩ := bndI_s e
  refine k_109_0 (by omega) (t_110 e1) ?_
  rintro _ _ ⟨rfl, rfl⟩
  exact r_109_6 hd hq e2
noncomputable def S_109 (v1 : Int32) (v2 : Int32) (h : Hp) : Option (Int32 × Hp) := R_109_0 v1 v2 h
set_option maxRecDepth 100000 in
theorem t_109 {v1 : Int32} {v2 : Int32} {h : Hp} {r : Int32 × Hp} (e : S_109 v1 v2 h = some r) : CV 67 109 [.ref 31, .int v1, .int v2] h (fun g => g = r.2) := by
  refine C.of mo_109 (Nat.le_of_ble_eq_true rfl) (fun X hq => ?_)
  exact r_109_0 (Nat.le_refl _) (hq _ _ ⟨rfl, rfl⟩) e
/-! 107 PlayedTruth.best(I)I -/
noncomputable def R_107_18 (h : Hp) : Option (Int32 × Hp) := some ((h 31 6), h)
theorem r_107_18 {X : GX} {d : Nat} {r : Int32 × Hp} (hd : 68 ≤ d) (hq : RtX X (some (.int r.1)) r.2) {h : Hp} (e : R_107_18 h = some r) : G X d 107 18 [some (.ref 0), none] [] h := by
  unfold R_107_18 at e
  rw [← Option.some.inj e] at hq
  exact k_107_18 hq
noncomputable def R_107_9 (v1 : Int32) (h : Hp) : Option (Int32 × Hp) := bndV (S_109 v1 0 h) (R_107_18)
theorem r_107_9 {X : GX} {d : Nat} {r : Int32 × Hp} (hd : 68 ≤ d) (hq : RtX X (some (.int r.1)) r.2) {h : Hp} {v1 : Int32} (e : R_107_9 v1 h = some r) : G X d 107 9 [some (.ref 0), some (.int v1)] [] h := by
  unfold R_107_9 at e
  obtain ⟨x, h2, e1, e2⟩ := bndV_s e
  refine k_107_9 (by omega) (t_109 e1) ?_
  rintro _ rfl
  exact r_107_18 hd hq e2
noncomputable def R_107_7 (h : Hp) : Option (Int32 × Hp) := some (((-1)), h)
theorem r_107_7 {X : GX} {d : Nat} {r : Int32 × Hp} (hd : 68 ≤ d) (hq : RtX X (some (.int r.1)) r.2) {h : Hp} (e : R_107_7 h = some r) : G X d 107 7 [none, none] [] h := by
  unfold R_107_7 at e
  rw [← Option.some.inj e] at hq
  exact k_107_7 hq
noncomputable def R_107_4 (v1 : Int32) (s0 : Int32) (h : Hp) : Option (Int32 × Hp) := if s0 = 0 then R_107_7 h else R_107_9 v1 h
theorem r_107_4 {X : GX} {d : Nat} {r : Int32 × Hp} (hd : 68 ≤ d) (hq : RtX X (some (.int r.1)) r.2) {h : Hp} {v1 : Int32} {s0 : Int32} (e : R_107_4 v1 s0 h = some r) : G X d 107 4 [some (.ref 0), some (.int v1)] [.int s0] h := by
  unfold R_107_4 at e
  refine k_107_4 (fun c => ?_) (fun c => ?_)
  · rw [if_neg c] at e; exact r_107_9 hd hq e
  · rw [if_pos c] at e; exact r_107_7 hd hq e
noncomputable def R_107_0 (v1 : Int32) (h : Hp) : Option (Int32 × Hp) := bndI (S_108 v1 h) (R_107_4 v1)
theorem r_107_0 {X : GX} {d : Nat} {r : Int32 × Hp} (hd : 68 ≤ d) (hq : RtX X (some (.int r.1)) r.2) {h : Hp} {v1 : Int32} (e : R_107_0 v1 h = some r) : G X d 107 0 [some (.ref 0), some (.int v1)] [] h := by
  unfold R_107_0 at e
  obtain ⟨x, h2, e1, e2⟩ := bndI_s e
  refine k_107_0 (by omega) (t_108 e1) ?_
  rintro _ _ ⟨rfl, rfl⟩
  exact r_107_4 hd hq e2
noncomputable def S_107 (v1 : Int32) (h : Hp) : Option (Int32 × Hp) := R_107_0 v1 h
set_option maxRecDepth 100000 in
theorem t_107 {v1 : Int32} {h : Hp} {r : Int32 × Hp} (e : S_107 v1 h = some r) : CI 68 107 [.ref 0, .int v1] h (fun x g => x = r.1 ∧ g = r.2) := by
  refine C.of mo_107 (Nat.le_of_ble_eq_true rfl) (fun X hq => ?_)
  exact r_107_0 (Nat.le_refl _) (hq _ _ ⟨_, rfl, rfl, rfl⟩) e
/-! 113 PlayedTruth.ith(II)I -/
noncomputable def R_113_16 (h : Hp) : Option (Int32 × Hp) := some (((-1)), h)
theorem r_113_16 {X : GX} {d : Nat} {r : Int32 × Hp} (hd : 68 ≤ d) (hq : RtX X (some (.int r.1)) r.2) {h : Hp} (e : R_113_16 h = some r) : G X d 113 16 [none, none, none] [] h := by
  unfold R_113_16 at e
  rw [← Option.some.inj e] at hq
  exact k_113_16 hq
noncomputable def R_113_50 (h : Hp) : Option (Int32 × Hp) := some (((-3)), h)
theorem r_113_50 {X : GX} {d : Nat} {r : Int32 × Hp} (hd : 68 ≤ d) (hq : RtX X (some (.int r.1)) r.2) {h : Hp} (e : R_113_50 h = some r) : G X d 113 50 [none, none, none] [] h := by
  unfold R_113_50 at e
  rw [← Option.some.inj e] at hq
  exact k_113_50 hq
noncomputable def R_113_38 (v2 : Int32) (h : Hp) : Option (Int32 × Hp) := gd (IA 34 v2) (some ((h 34 (Int32.toNatClampNeg v2)), h))
theorem r_113_38 {X : GX} {d : Nat} {r : Int32 × Hp} (hd : 68 ≤ d) (hq : RtX X (some (.int r.1)) r.2) {h : Hp} {v2 : Int32} (e : R_113_38 v2 h = some r) : G X d 113 38 [some (.ref 0), none, some (.int v2)] [] h := by
  unfold R_113_38 at e
  have g := gd_s e; clear e; obtain ⟨b0, e⟩ := g
  rw [← Option.some.inj e] at hq
  exact k_113_38 b0 hq
noncomputable def R_113_27 (v2 : Int32) (h : Hp) : Option (Int32 × Hp) := if (h 31 5) ≤ v2 then R_113_50 h else R_113_38 v2 h
theorem r_113_27 {X : GX} {d : Nat} {r : Int32 × Hp} (hd : 68 ≤ d) (hq : RtX X (some (.int r.1)) r.2) {h : Hp} {v2 : Int32} (e : R_113_27 v2 h = some r) : G X d 113 27 [some (.ref 0), none, some (.int v2)] [] h := by
  unfold R_113_27 at e
  refine k_113_27 (fun c => ?_) (fun c => ?_)
  · rw [if_pos c] at e; exact r_113_50 hd hq e
  · rw [if_neg c] at e; exact r_113_38 hd hq e
noncomputable def R_113_18 (v1 : Int32) (v2 : Int32) (h : Hp) : Option (Int32 × Hp) := bndV (S_109 v1 0 h) (R_113_27 v2)
theorem r_113_18 {X : GX} {d : Nat} {r : Int32 × Hp} (hd : 68 ≤ d) (hq : RtX X (some (.int r.1)) r.2) {h : Hp} {v1 : Int32} {v2 : Int32} (e : R_113_18 v1 v2 h = some r) : G X d 113 18 [some (.ref 0), some (.int v1), some (.int v2)] [] h := by
  unfold R_113_18 at e
  obtain ⟨x, h2, e1, e2⟩ := bndV_s e
  refine k_113_18 (by omega) (t_109 e1) ?_
  rintro _ rfl
  exact r_113_27 hd hq e2
noncomputable def R_113_13 (v1 : Int32) (v2 : Int32) (s0 : Int32) (h : Hp) : Option (Int32 × Hp) := if s0 = 0 then R_113_16 h else R_113_18 v1 v2 h
theorem r_113_13 {X : GX} {d : Nat} {r : Int32 × Hp} (hd : 68 ≤ d) (hq : RtX X (some (.int r.1)) r.2) {h : Hp} {v1 : Int32} {v2 : Int32} {s0 : Int32} (e : R_113_13 v1 v2 s0 h = some r) : G X d 113 13 [some (.ref 0), some (.int v1), some (.int v2)] [.int s0] h := by
  unfold R_113_13 at e
  refine k_113_13 (fun c => ?_) (fun c => ?_)
  · rw [if_neg c] at e; exact r_113_18 hd hq e
  · rw [if_pos c] at e; exact r_113_16 hd hq e
noncomputable def R_113_7 (v1 : Int32) (v2 : Int32) (h : Hp) : Option (Int32 × Hp) := bndI (S_11 v2 0 3 h) (R_113_13 v1 v2)
theorem r_113_7 {X : GX} {d : Nat} {r : Int32 × Hp} (hd : 68 ≤ d) (hq : RtX X (some (.int r.1)) r.2) {h : Hp} {v1 : Int32} {v2 : Int32} (e : R_113_7 v1 v2 h = some r) : G X d 113 7 [some (.ref 0), some (.int v1), some (.int v2)] [] h := by
  unfold R_113_7 at e
  obtain ⟨x, h2, e1, e2⟩ := bndI_s e
  refine k_113_7 (by omega) (t_11 e1) ?_
  rintro _ _ ⟨rfl, rfl⟩
  exact r_113_13 hd hq e2
noncomputable def R_113_4 (v1 : Int32) (v2 : Int32) (s0 : Int32) (h : Hp) : Option (Int32 × Hp) := if s0 = 0 then R_113_16 h else R_113_7 v1 v2 h
theorem r_113_4 {X : GX} {d : Nat} {r : Int32 × Hp} (hd : 68 ≤ d) (hq : RtX X (some (.int r.1)) r.2) {h : Hp} {v1 : Int32} {v2 : Int32} {s0 : Int32} (e : R_113_4 v1 v2 s0 h = some r) : G X d 113 4 [some (.ref 0), some (.int v1), some (.int v2)] [.int s0] h := by
  unfold R_113_4 at e
  refine k_113_4 (fun c => ?_) (fun c => ?_)
  · rw [if_pos c] at e; exact r_113_16 hd hq e
  · rw [if_neg c] at e; exact r_113_7 hd hq e
noncomputable def R_113_0 (v1 : Int32) (v2 : Int32) (h : Hp) : Option (Int32 × Hp) := bndI (S_108 v1 h) (R_113_4 v1 v2)
theorem r_113_0 {X : GX} {d : Nat} {r : Int32 × Hp} (hd : 68 ≤ d) (hq : RtX X (some (.int r.1)) r.2) {h : Hp} {v1 : Int32} {v2 : Int32} (e : R_113_0 v1 v2 h = some r) : G X d 113 0 [some (.ref 0), some (.int v1), some (.int v2)] [] h := by
  unfold R_113_0 at e
  obtain ⟨x, h2, e1, e2⟩ := bndI_s e
  refine k_113_0 (by omega) (t_108 e1) ?_
  rintro _ _ ⟨rfl, rfl⟩
  exact r_113_4 hd hq e2
noncomputable def S_113 (v1 : Int32) (v2 : Int32) (h : Hp) : Option (Int32 × Hp) := R_113_0 v1 v2 h
set_option maxRecDepth 100000 in
theorem t_113 {v1 : Int32} {v2 : Int32} {h : Hp} {r : Int32 × Hp} (e : S_113 v1 v2 h = some r) : CI 68 113 [.ref 0, .int v1, .int v2] h (fun x g => x = r.1 ∧ g = r.2) := by
  refine C.of mo_113 (Nat.le_of_ble_eq_true rfl) (fun X hq => ?_)
  exact r_113_0 (Nat.le_refl _) (hq _ _ ⟨_, rfl, rfl, rfl⟩) e
/-! 114 PlayedTruth.ways(I)I -/
noncomputable def R_114_18 (h : Hp) : Option (Int32 × Hp) := some ((h 31 7), h)
theorem r_114_18 {X : GX} {d : Nat} {r : Int32 × Hp} (hd : 68 ≤ d) (hq : RtX X (some (.int r.1)) r.2) {h : Hp} (e : R_114_18 h = some r) : G X d 114 18 [some (.ref 0), none] [] h := by
  unfold R_114_18 at e
  rw [← Option.some.inj e] at hq
  exact k_114_18 hq
noncomputable def R_114_9 (v1 : Int32) (h : Hp) : Option (Int32 × Hp) := bndV (S_109 v1 0 h) (R_114_18)
theorem r_114_9 {X : GX} {d : Nat} {r : Int32 × Hp} (hd : 68 ≤ d) (hq : RtX X (some (.int r.1)) r.2) {h : Hp} {v1 : Int32} (e : R_114_9 v1 h = some r) : G X d 114 9 [some (.ref 0), some (.int v1)] [] h := by
  unfold R_114_9 at e
  obtain ⟨x, h2, e1, e2⟩ := bndV_s e
  refine k_114_9 (by omega) (t_109 e1) ?_
  rintro _ rfl
  exact r_114_18 hd hq e2
noncomputable def R_114_7 (h : Hp) : Option (Int32 × Hp) := some (((-1)), h)
theorem r_114_7 {X : GX} {d : Nat} {r : Int32 × Hp} (hd : 68 ≤ d) (hq : RtX X (some (.int r.1)) r.2) {h : Hp} (e : R_114_7 h = some r) : G X d 114 7 [none, none] [] h := by
  unfold R_114_7 at e
  rw [← Option.some.inj e] at hq
  exact k_114_7 hq
noncomputable def R_114_4 (v1 : Int32) (s0 : Int32) (h : Hp) : Option (Int32 × Hp) := if s0 = 0 then R_114_7 h else R_114_9 v1 h
theorem r_114_4 {X : GX} {d : Nat} {r : Int32 × Hp} (hd : 68 ≤ d) (hq : RtX X (some (.int r.1)) r.2) {h : Hp} {v1 : Int32} {s0 : Int32} (e : R_114_4 v1 s0 h = some r) : G X d 114 4 [some (.ref 0), some (.int v1)] [.int s0] h := by
  unfold R_114_4 at e
  refine k_114_4 (fun c => ?_) (fun c => ?_)
  · rw [if_neg c] at e; exact r_114_9 hd hq e
  · rw [if_pos c] at e; exact r_114_7 hd hq e
noncomputable def R_114_0 (v1 : Int32) (h : Hp) : Option (Int32 × Hp) := bndI (S_108 v1 h) (R_114_4 v1)
theorem r_114_0 {X : GX} {d : Nat} {r : Int32 × Hp} (hd : 68 ≤ d) (hq : RtX X (some (.int r.1)) r.2) {h : Hp} {v1 : Int32} (e : R_114_0 v1 h = some r) : G X d 114 0 [some (.ref 0), some (.int v1)] [] h := by
  unfold R_114_0 at e
  obtain ⟨x, h2, e1, e2⟩ := bndI_s e
  refine k_114_0 (by omega) (t_108 e1) ?_
  rintro _ _ ⟨rfl, rfl⟩
  exact r_114_4 hd hq e2
noncomputable def S_114 (v1 : Int32) (h : Hp) : Option (Int32 × Hp) := R_114_0 v1 h
set_option maxRecDepth 100000 in
theorem t_114 {v1 : Int32} {h : Hp} {r : Int32 × Hp} (e : S_114 v1 h = some r) : CI 68 114 [.ref 0, .int v1] h (fun x g => x = r.1 ∧ g = r.2) := by
  refine C.of mo_114 (Nat.le_of_ble_eq_true rfl) (fun X hq => ?_)
  exact r_114_0 (Nat.le_refl _) (hq _ _ ⟨_, rfl, rfl, rfl⟩) e
/-! 116 PlayedTruth.isSetOfScenes(I)Z -/
noncomputable def R_116_16 (s0 : Int32) (h : Hp) : Option (Int32 × Hp) := gd (s0 = 0 ∨ s0 = 1) (some (s0, h))
theorem r_116_16 {X : GX} {d : Nat} {r : Int32 × Hp} (hd : 2 ≤ d) (hq : RtX X (some (.int r.1)) r.2) {h : Hp} {s0 : Int32} (e : R_116_16 s0 h = some r) : G X d 116 16 [none, none] [.int s0] h := by
  unfold R_116_16 at e
  have g := gd_s e; clear e; obtain ⟨z0, e⟩ := g
  rw [← Option.some.inj e] at hq
  exact k_116_16 z0 hq
noncomputable def R_116_0 (v1 : Int32) (h : Hp) : Option (Int32 × Hp) := bndI (S_11 v1 0 ((1 <<< ((h 1 7) &&& 31)) - 1) h) (R_116_16)
theorem r_116_0 {X : GX} {d : Nat} {r : Int32 × Hp} (hd : 2 ≤ d) (hq : RtX X (some (.int r.1)) r.2) {h : Hp} {v1 : Int32} (e : R_116_0 v1 h = some r) : G X d 116 0 [some (.ref 0), some (.int v1)] [] h := by
  unfold R_116_0 at e
  obtain ⟨x, h2, e1, e2⟩ := bndI_s e
  refine k_116_0 (by omega) (t_11 e1) ?_
  rintro _ _ ⟨rfl, rfl⟩
  exact r_116_16 hd hq e2
noncomputable def S_116 (v1 : Int32) (h : Hp) : Option (Int32 × Hp) := R_116_0 v1 h
set_option maxRecDepth 100000 in
theorem t_116 {v1 : Int32} {h : Hp} {r : Int32 × Hp} (e : S_116 v1 h = some r) : CI 2 116 [.ref 0, .int v1] h (fun x g => x = r.1 ∧ g = r.2) := by
  refine C.of mo_116 (Nat.le_of_ble_eq_true rfl) (fun X hq => ?_)
  exact r_116_0 (Nat.le_refl _) (hq _ _ ⟨_, rfl, rfl, rfl⟩) e
/-! 115 PlayedTruth.bill(II)I -/
noncomputable def R_115_15 (h : Hp) : Option (Int32 × Hp) := some (((-1)), h)
theorem r_115_15 {X : GX} {d : Nat} {r : Int32 × Hp} (hd : 68 ≤ d) (hq : RtX X (some (.int r.1)) r.2) {h : Hp} (e : R_115_15 h = some r) : G X d 115 15 [none, none, none] [] h := by
  unfold R_115_15 at e
  rw [← Option.some.inj e] at hq
  exact k_115_15 hq
noncomputable def R_115_26 (h : Hp) : Option (Int32 × Hp) := some ((h 31 9), h)
theorem r_115_26 {X : GX} {d : Nat} {r : Int32 × Hp} (hd : 68 ≤ d) (hq : RtX X (some (.int r.1)) r.2) {h : Hp} (e : R_115_26 h = some r) : G X d 115 26 [some (.ref 0), none, none] [] h := by
  unfold R_115_26 at e
  rw [← Option.some.inj e] at hq
  exact k_115_26 hq
noncomputable def R_115_17 (v1 : Int32) (v2 : Int32) (h : Hp) : Option (Int32 × Hp) := bndV (S_109 v1 v2 h) (R_115_26)
theorem r_115_17 {X : GX} {d : Nat} {r : Int32 × Hp} (hd : 68 ≤ d) (hq : RtX X (some (.int r.1)) r.2) {h : Hp} {v1 : Int32} {v2 : Int32} (e : R_115_17 v1 v2 h = some r) : G X d 115 17 [some (.ref 0), some (.int v1), some (.int v2)] [] h := by
  unfold R_115_17 at e
  obtain ⟨x, h2, e1, e2⟩ := bndV_s e
  refine k_115_17 (by omega) (t_109 e1) ?_
  rintro _ rfl
  exact r_115_26 hd hq e2
noncomputable def R_115_12 (v1 : Int32) (v2 : Int32) (s0 : Int32) (h : Hp) : Option (Int32 × Hp) := if s0 = 0 then R_115_15 h else R_115_17 v1 v2 h
theorem r_115_12 {X : GX} {d : Nat} {r : Int32 × Hp} (hd : 68 ≤ d) (hq : RtX X (some (.int r.1)) r.2) {h : Hp} {v1 : Int32} {v2 : Int32} {s0 : Int32} (e : R_115_12 v1 v2 s0 h = some r) : G X d 115 12 [some (.ref 0), some (.int v1), some (.int v2)] [.int s0] h := by
  unfold R_115_12 at e
  refine k_115_12 (fun c => ?_) (fun c => ?_)
  · rw [if_neg c] at e; exact r_115_17 hd hq e
  · rw [if_pos c] at e; exact r_115_15 hd hq e
noncomputable def R_115_7 (v1 : Int32) (v2 : Int32) (h : Hp) : Option (Int32 × Hp) := bndI (S_116 v2 h) (R_115_12 v1 v2)
theorem r_115_7 {X : GX} {d : Nat} {r : Int32 × Hp} (hd : 68 ≤ d) (hq : RtX X (some (.int r.1)) r.2) {h : Hp} {v1 : Int32} {v2 : Int32} (e : R_115_7 v1 v2 h = some r) : G X d 115 7 [some (.ref 0), some (.int v1), some (.int v2)] [] h := by
  unfold R_115_7 at e
  obtain ⟨x, h2, e1, e2⟩ := bndI_s e
  refine k_115_7 (by omega) (t_116 e1) ?_
  rintro _ _ ⟨rfl, rfl⟩
  exact r_115_12 hd hq e2
noncomputable def R_115_4 (v1 : Int32) (v2 : Int32) (s0 : Int32) (h : Hp) : Option (Int32 × Hp) := if s0 = 0 then R_115_15 h else R_115_7 v1 v2 h
theorem r_115_4 {X : GX} {d : Nat} {r : Int32 × Hp} (hd : 68 ≤ d) (hq : RtX X (some (.int r.1)) r.2) {h : Hp} {v1 : Int32} {v2 : Int32} {s0 : Int32} (e : R_115_4 v1 v2 s0 h = some r) : G X d 115 4 [some (.ref 0), some (.int v1), some (.int v2)] [.int s0] h := by
  unfold R_115_4 at e
  refine k_115_4 (fun c => ?_) (fun c => ?_)
  · rw [if_pos c] at e; exact r_115_15 hd hq e
  · rw [if_neg c] at e; exact r_115_7 hd hq e
noncomputable def R_115_0 (v1 : Int32) (v2 : Int32) (h : Hp) : Option (Int32 × Hp) := bndI (S_108 v1 h) (R_115_4 v1 v2)
theorem r_115_0 {X : GX} {d : Nat} {r : Int32 × Hp} (hd : 68 ≤ d) (hq : RtX X (some (.int r.1)) r.2) {h : Hp} {v1 : Int32} {v2 : Int32} (e : R_115_0 v1 v2 h = some r) : G X d 115 0 [some (.ref 0), some (.int v1), some (.int v2)] [] h := by
  unfold R_115_0 at e
  obtain ⟨x, h2, e1, e2⟩ := bndI_s e
  refine k_115_0 (by omega) (t_108 e1) ?_
  rintro _ _ ⟨rfl, rfl⟩
  exact r_115_4 hd hq e2
noncomputable def S_115 (v1 : Int32) (v2 : Int32) (h : Hp) : Option (Int32 × Hp) := R_115_0 v1 v2 h
set_option maxRecDepth 100000 in
theorem t_115 {v1 : Int32} {v2 : Int32} {h : Hp} {r : Int32 × Hp} (e : S_115 v1 v2 h = some r) : CI 68 115 [.ref 0, .int v1, .int v2] h (fun x g => x = r.1 ∧ g = r.2) := by
  refine C.of mo_115 (Nat.le_of_ble_eq_true rfl) (fun X hq => ?_)
  exact r_115_0 (Nat.le_refl _) (hq _ _ ⟨_, rfl, rfl, rfl⟩) e
/-! 118 PlayedTruth.leastOf(I)I -/
noncomputable def R_118_25 (h : Hp) : Option (Int32 × Hp) := some (((-3)), h)
theorem r_118_25 {X : GX} {d : Nat} {r : Int32 × Hp} (hd : 1 ≤ d) (hq : RtX X (some (.int r.1)) r.2) {h : Hp} (e : R_118_25 h = some r) : G X d 118 25 [none, none] [] h := by
  unfold R_118_25 at e
  rw [← Option.some.inj e] at hq
  exact k_118_25 hq
noncomputable def R_118_19 (rec_2 : Int32 → Int32 → Hp → Option (Int32 × Hp)) (v0 : Int32) (v1 : Int32) (h : Hp) : Option (Int32 × Hp) := rec_2 v0 (v1 + 1) h
theorem r_118_19 {X : GX} {d : Nat} {r : Int32 × Hp} (hd : 1 ≤ d) (hq : RtX X (some (.int r.1)) r.2) {rec_2 : Int32 → Int32 → Hp → Option (Int32 × Hp)} (hr_2 : ∀ {v0 : Int32} {v1 : Int32} {h : Hp}, rec_2 v0 v1 h = some r → G X d 118 2 [some (.int v0), some (.int v1)] [] h) {h : Hp} {v0 : Int32} {v1 : Int32} (e : R_118_19 rec_2 v0 v1 h = some r) : G X d 118 19 [some (.int v0), some (.int v1)] [] h := by
  unfold R_118_19 at e
  exact k_118_19 (hr_2 e)
noncomputable def R_118_17 (v1 : Int32) (h : Hp) : Option (Int32 × Hp) := some (v1, h)
theorem r_118_17 {X : GX} {d : Nat} {r : Int32 × Hp} (hd : 1 ≤ d) (hq : RtX X (some (.int r.1)) r.2) {h : Hp} {v1 : Int32} (e : R_118_17 v1 h = some r) : G X d 118 17 [none, some (.int v1)] [] h := by
  unfold R_118_17 at e
  rw [← Option.some.inj e] at hq
  exact k_118_17 hq
noncomputable def R_118_8 (rec_2 : Int32 → Int32 → Hp → Option (Int32 × Hp)) (v0 : Int32) (v1 : Int32) (h : Hp) : Option (Int32 × Hp) := if ((v0 >>> (v1 &&& 31)) &&& 1) = 1 then R_118_17 v1 h else R_118_19 rec_2 v0 v1 h
theorem r_118_8 {X : GX} {d : Nat} {r : Int32 × Hp} (hd : 1 ≤ d) (hq : RtX X (some (.int r.1)) r.2) {rec_2 : Int32 → Int32 → Hp → Option (Int32 × Hp)} (hr_2 : ∀ {v0 : Int32} {v1 : Int32} {h : Hp}, rec_2 v0 v1 h = some r → G X d 118 2 [some (.int v0), some (.int v1)] [] h) {h : Hp} {v0 : Int32} {v1 : Int32} (e : R_118_8 rec_2 v0 v1 h = some r) : G X d 118 8 [some (.int v0), some (.int v1)] [] h := by
  unfold R_118_8 at e
  refine k_118_8 (fun c => ?_) (fun c => ?_)
  · rw [if_neg c] at e; exact r_118_19 hd hq hr_2 e
  · rw [if_pos c] at e; exact r_118_17 hd hq e
noncomputable def R_118_2 (rec_2 : Int32 → Int32 → Hp → Option (Int32 × Hp)) (v0 : Int32) (v1 : Int32) (h : Hp) : Option (Int32 × Hp) := if 6 ≤ v1 then R_118_25 h else R_118_8 rec_2 v0 v1 h
theorem r_118_2 {X : GX} {d : Nat} {r : Int32 × Hp} (hd : 1 ≤ d) (hq : RtX X (some (.int r.1)) r.2) {rec_2 : Int32 → Int32 → Hp → Option (Int32 × Hp)} (hr_2 : ∀ {v0 : Int32} {v1 : Int32} {h : Hp}, rec_2 v0 v1 h = some r → G X d 118 2 [some (.int v0), some (.int v1)] [] h) {h : Hp} {v0 : Int32} {v1 : Int32} (e : R_118_2 rec_2 v0 v1 h = some r) : G X d 118 2 [some (.int v0), some (.int v1)] [] h := by
  unfold R_118_2 at e
  refine k_118_2 (fun c => ?_) (fun c => ?_)
  · rw [if_pos c] at e; exact r_118_25 hd hq e
  · rw [if_neg c] at e; exact r_118_8 hd hq hr_2 e
noncomputable def H_118_2 : Nat → Int32 → Int32 → Hp → Option (Int32 × Hp)
  | 0, _, _, _ => none
  | n + 1, v0, v1, h => R_118_2 (H_118_2 n) v0 v1 h
theorem h_118_2 {X : GX} {d : Nat} {r : Int32 × Hp} (hd : 1 ≤ d) (hq : RtX X (some (.int r.1)) r.2) {n : Nat} {h : Hp} {v0 : Int32} {v1 : Int32} (e : H_118_2 n v0 v1 h = some r) : G X d 118 2 [some (.int v0), some (.int v1)] [] h := by
  induction n generalizing v0 v1 h with
  | zero => cases e
  | succ n ih => exact r_118_2 hd hq (fun e => ih e) e
noncomputable def R_118_0 (v0 : Int32) (h : Hp) : Option (Int32 × Hp) := H_118_2 fuL v0 0 h
theorem r_118_0 {X : GX} {d : Nat} {r : Int32 × Hp} (hd : 1 ≤ d) (hq : RtX X (some (.int r.1)) r.2) {h : Hp} {v0 : Int32} (e : R_118_0 v0 h = some r) : G X d 118 0 [some (.int v0), none] [] h := by
  unfold R_118_0 at e
  exact k_118_0 (h_118_2 hd hq e)
noncomputable def S_118 (v0 : Int32) (h : Hp) : Option (Int32 × Hp) := R_118_0 v0 h
set_option maxRecDepth 100000 in
theorem t_118 {v0 : Int32} {h : Hp} {r : Int32 × Hp} (e : S_118 v0 h = some r) : CI 1 118 [.int v0] h (fun x g => x = r.1 ∧ g = r.2) := by
  refine C.of mo_118 (Nat.le_of_ble_eq_true rfl) (fun X hq => ?_)
  exact r_118_0 (Nat.le_refl _) (hq _ _ ⟨_, rfl, rfl, rfl⟩) e
/-! 117 PlayedTruth.bars(II)I -/
noncomputable def R_117_15 (h : Hp) : Option (Int32 × Hp) := some (((-1)), h)
theorem r_117_15 {X : GX} {d : Nat} {r : Int32 × Hp} (hd : 68 ≤ d) (hq : RtX X (some (.int r.1)) r.2) {h : Hp} (e : R_117_15 h = some r) : G X d 117 15 [none, none, none] [] h := by
  unfold R_117_15 at e
  rw [← Option.some.inj e] at hq
  exact k_117_15 hq
noncomputable def R_117_40 (s0 : Int32) (h : Hp) : Option (Int32 × Hp) := some (s0, h)
theorem r_117_40 {X : GX} {d : Nat} {r : Int32 × Hp} (hd : 68 ≤ d) (hq : RtX X (some (.int r.1)) r.2) {h : Hp} {s0 : Int32} (e : R_117_40 s0 h = some r) : G X d 117 40 [none, none, none] [.int s0] h := by
  unfold R_117_40 at e
  rw [← Option.some.inj e] at hq
  exact k_117_40 hq
noncomputable def R_117_26 (v2 : Int32) (h : Hp) : Option (Int32 × Hp) := bndI (S_118 (v2 &&& ((h 31 10) ^^^ ((-1)))) h) (R_117_40)
theorem r_117_26 {X : GX} {d : Nat} {r : Int32 × Hp} (hd : 68 ≤ d) (hq : RtX X (some (.int r.1)) r.2) {h : Hp} {v2 : Int32} (e : R_117_26 v2 h = some r) : G X d 117 26 [some (.ref 0), none, some (.int v2)] [] h := by
  unfold R_117_26 at e
  obtain ⟨x, h2, e1, e2⟩ := bndI_s e
  refine k_117_26 (by omega) (t_118 e1) ?_
  rintro _ _ ⟨rfl, rfl⟩
  exact r_117_40 hd hq e2
noncomputable def R_117_17 (v1 : Int32) (v2 : Int32) (h : Hp) : Option (Int32 × Hp) := bndV (S_109 v1 v2 h) (R_117_26 v2)
theorem r_117_17 {X : GX} {d : Nat} {r : Int32 × Hp} (hd : 68 ≤ d) (hq : RtX X (some (.int r.1)) r.2) {h : Hp} {v1 : Int32} {v2 : Int32} (e : R_117_17 v1 v2 h = some r) : G X d 117 17 [some (.ref 0), some (.int v1), some (.int v2)] [] h := by
  unfold R_117_17 at e
  obtain ⟨x, h2, e1, e2⟩ := bndV_s e
  refine k_117_17 (by omega) (t_109 e1) ?_
  rintro _ rfl
  exact r_117_26 hd hq e2
noncomputable def R_117_12 (v1 : Int32) (v2 : Int32) (s0 : Int32) (h : Hp) : Option (Int32 × Hp) := if s0 = 0 then R_117_15 h else R_117_17 v1 v2 h
theorem r_117_12 {X : GX} {d : Nat} {r : Int32 × Hp} (hd : 68 ≤ d) (hq : RtX X (some (.int r.1)) r.2) {h : Hp} {v1 : Int32} {v2 : Int32} {s0 : Int32} (e : R_117_12 v1 v2 s0 h = some r) : G X d 117 12 [some (.ref 0), some (.int v1), some (.int v2)] [.int s0] h := by
  unfold R_117_12 at e
  refine k_117_12 (fun c => ?_) (fun c => ?_)
  · rw [if_neg c] at e; exact r_117_17 hd hq e
  · rw [if_pos c] at e; exact r_117_15 hd hq e
noncomputable def R_117_7 (v1 : Int32) (v2 : Int32) (h : Hp) : Option (Int32 × Hp) := bndI (S_116 v2 h) (R_117_12 v1 v2)
theorem r_117_7 {X : GX} {d : Nat} {r : Int32 × Hp} (hd : 68 ≤ d) (hq : RtX X (some (.int r.1)) r.2) {h : Hp} {v1 : Int32} {v2 : Int32} (e : R_117_7 v1 v2 h = some r) : G X d 117 7 [some (.ref 0), some (.int v1), some (.int v2)] [] h := by
  unfold R_117_7 at e
  obtain ⟨x, h2, e1, e2⟩ := bndI_s e
  refine k_117_7 (by omega) (t_116 e1) ?_
  rintro _ _ ⟨rfl, rfl⟩
  exact r_117_12 hd hq e2
noncomputable def R_117_4 (v1 : Int32) (v2 : Int32) (s0 : Int32) (h : Hp) : Option (Int32 × Hp) := if s0 = 0 then R_117_15 h else R_117_7 v1 v2 h
theorem r_117_4 {X : GX} {d : Nat} {r : Int32 × Hp} (hd : 68 ≤ d) (hq : RtX X (some (.int r.1)) r.2) {h : Hp} {v1 : Int32} {v2 : Int32} {s0 : Int32} (e : R_117_4 v1 v2 s0 h = some r) : G X d 117 4 [some (.ref 0), some (.int v1), some (.int v2)] [.int s0] h := by
  unfold R_117_4 at e
  refine k_117_4 (fun c => ?_) (fun c => ?_)
  · rw [if_pos c] at e; exact r_117_15 hd hq e
  · rw [if_neg c] at e; exact r_117_7 hd hq e
noncomputable def R_117_0 (v1 : Int32) (v2 : Int32) (h : Hp) : Option (Int32 × Hp) := bndI (S_108 v1 h) (R_117_4 v1 v2)
theorem r_117_0 {X : GX} {d : Nat} {r : Int32 × Hp} (hd : 68 ≤ d) (hq : RtX X (some (.int r.1)) r.2) {h : Hp} {v1 : Int32} {v2 : Int32} (e : R_117_0 v1 v2 h = some r) : G X d 117 0 [some (.ref 0), some (.int v1), some (.int v2)] [] h := by
  unfold R_117_0 at e
  obtain ⟨x, h2, e1, e2⟩ := bndI_s e
  refine k_117_0 (by omega) (t_108 e1) ?_
  rintro _ _ ⟨rfl, rfl⟩
  exact r_117_4 hd hq e2
noncomputable def S_117 (v1 : Int32) (v2 : Int32) (h : Hp) : Option (Int32 × Hp) := R_117_0 v1 v2 h
set_option maxRecDepth 100000 in
theorem t_117 {v1 : Int32} {v2 : Int32} {h : Hp} {r : Int32 × Hp} (e : S_117 v1 v2 h = some r) : CI 68 117 [.ref 0, .int v1, .int v2] h (fun x g => x = r.1 ∧ g = r.2) := by
  refine C.of mo_117 (Nat.le_of_ble_eq_true rfl) (fun X hq => ?_)
  exact r_117_0 (Nat.le_refl _) (hq _ _ ⟨_, rfl, rfl, rfl⟩) e
/-! 121 PlayedTruth$Ahead.valueOfGame(I)I -/
noncomputable def R_121_13 (c_121 : Int32 → Hp → Option (Int32 × Hp)) (v1 : Int32) (h : Hp) : Option (Int32 × Hp) := gd (vp_in v1 5 ∧ sh (35 + 3 * Int32.toNatClampNeg v1) = (1, 3)) (some (((h (35 + 3 * Int32.toNatClampNeg v1) 4) - (h 13 4)), h))
theorem r_121_13 {X : GX} {d : Nat} {r : Int32 × Hp} {c_121 : Int32 → Hp → Option (Int32 × Hp)} {dg : Nat} (hd : 6 ≤ d) (hgd : dg < d) (hc_121 : ∀ {v1 : Int32} {h : Hp} {r : Int32 × Hp}, c_121 v1 h = some r → CI dg 121 [.ref 31, .int v1] h (fun x g => x = r.1 ∧ g = r.2)) (hq : RtX X (some (.int r.1)) r.2) {h : Hp} {v1 : Int32} (e : R_121_13 c_121 v1 h = some r) : G X d 121 13 [some (.ref 31), some (.int v1), none, none, none, none, none] [] h := by
  unfold R_121_13 at e
  have g := gd_s e; clear e; obtain ⟨⟨b0, o1⟩, e⟩ := g
  rw [← Option.some.inj e] at hq
  exact k_121_13 b0 o1 hq
noncomputable def R_121_145 (c_121 : Int32 → Hp → Option (Int32 × Hp)) (v3 : Int32) (h : Hp) : Option (Int32 × Hp) := some (v3, h)
theorem r_121_145 {X : GX} {d : Nat} {r : Int32 × Hp} {c_121 : Int32 → Hp → Option (Int32 × Hp)} {dg : Nat} (hd : 6 ≤ d) (hgd : dg < d) (hc_121 : ∀ {v1 : Int32} {h : Hp} {r : Int32 × Hp}, c_121 v1 h = some r → CI dg 121 [.ref 31, .int v1] h (fun x g => x = r.1 ∧ g = r.2)) (hq : RtX X (some (.int r.1)) r.2) {h : Hp} {v3 : Int32} (e : R_121_145 c_121 v3 h = some r) : G X d 121 145 [none, none, none, some (.int v3), none, none, none] [] h := by
  unfold R_121_145 at e
  rw [← Option.some.inj e] at hq
  exact k_121_145 hq
noncomputable def R_121_139 (c_121 : Int32 → Hp → Option (Int32 × Hp)) (rec_58 : Int32 → Int32 → Int32 → Nat → Int32 → Hp → Option (Int32 × Hp)) (v1 : Int32) (v2 : Int32) (v3 : Int32) (v4 : Nat) (v5 : Int32) (h : Hp) : Option (Int32 × Hp) := rec_58 v1 v2 v3 v4 (v5 + 1) h
theorem r_121_139 {X : GX} {d : Nat} {r : Int32 × Hp} {c_121 : Int32 → Hp → Option (Int32 × Hp)} {dg : Nat} (hd : 6 ≤ d) (hgd : dg < d) (hc_121 : ∀ {v1 : Int32} {h : Hp} {r : Int32 × Hp}, c_121 v1 h = some r → CI dg 121 [.ref 31, .int v1] h (fun x g => x = r.1 ∧ g = r.2)) (hq : RtX X (some (.int r.1)) r.2) {rec_58 : Int32 → Int32 → Int32 → Nat → Int32 → Hp → Option (Int32 × Hp)} (hr_58 : ∀ {v1 : Int32} {v2 : Int32} {v3 : Int32} {v4 : Nat} {v5 : Int32} {h : Hp}, rec_58 v1 v2 v3 v4 v5 h = some r → G X d 121 58 [some (.ref 31), some (.int v1), some (.int v2), some (.int v3), some (.ref v4), some (.int v5), none] [] h) {h : Hp} {v1 : Int32} {v2 : Int32} {v3 : Int32} {v4 : Nat} {v5 : Int32} (e : R_121_139 c_121 rec_58 v1 v2 v3 v4 v5 h = some r) : G X d 121 139 [some (.ref 31), some (.int v1), some (.int v2), some (.int v3), some (.ref v4), some (.int v5), none] [] h := by
  unfold R_121_139 at e
  exact k_121_139 (hr_58 e)
noncomputable def R_121_133 (c_121 : Int32 → Hp → Option (Int32 × Hp)) (rec_58 : Int32 → Int32 → Int32 → Nat → Int32 → Hp → Option (Int32 × Hp)) (v1 : Int32) (v2 : Int32) (v3 : Int32) (v4 : Nat) (v5 : Int32) (h : Hp) : Option (Int32 × Hp) := rec_58 v1 v2 v3 v4 (v5 + 1) ((wr h 31 11 v5))
theorem r_121_133 {X : GX} {d : Nat} {r : Int32 × Hp} {c_121 : Int32 → Hp → Option (Int32 × Hp)} {dg : Nat} (hd : 6 ≤ d) (hgd : dg < d) (hc_121 : ∀ {v1 : Int32} {h : Hp} {r : Int32 × Hp}, c_121 v1 h = some r → CI dg 121 [.ref 31, .int v1] h (fun x g => x = r.1 ∧ g = r.2)) (hq : RtX X (some (.int r.1)) r.2) {rec_58 : Int32 → Int32 → Int32 → Nat → Int32 → Hp → Option (Int32 × Hp)} (hr_58 : ∀ {v1 : Int32} {v2 : Int32} {v3 : Int32} {v4 : Nat} {v5 : Int32} {h : Hp}, rec_58 v1 v2 v3 v4 v5 h = some r → G X d 121 58 [some (.ref 31), some (.int v1), some (.int v2), some (.int v3), some (.ref v4), some (.int v5), none] [] h) {h : Hp} {v1 : Int32} {v2 : Int32} {v3 : Int32} {v4 : Nat} {v5 : Int32} (e : R_121_133 c_121 rec_58 v1 v2 v3 v4 v5 h = some r) : G X d 121 133 [some (.ref 31), some (.int v1), some (.int v2), some (.int v3), some (.ref v4), some (.int v5), none] [] h := by
  unfold R_121_133 at e
  exact k_121_133 (hr_58 e)
noncomputable def R_121_126 (c_121 : Int32 → Hp → Option (Int32 × Hp)) (rec_58 : Int32 → Int32 → Int32 → Nat → Int32 → Hp → Option (Int32 × Hp)) (v1 : Int32) (v2 : Int32) (v4 : Nat) (v5 : Int32) (v6 : Int32) (h : Hp) : Option (Int32 × Hp) := if v1 = 0 then R_121_133 c_121 rec_58 v1 v2 v6 v4 v5 h else R_121_139 c_121 rec_58 v1 v2 v6 v4 v5 h
theorem r_121_126 {X : GX} {d : Nat} {r : Int32 × Hp} {c_121 : Int32 → Hp → Option (Int32 × Hp)} {dg : Nat} (hd : 6 ≤ d) (hgd : dg < d) (hc_121 : ∀ {v1 : Int32} {h : Hp} {r : Int32 × Hp}, c_121 v1 h = some r → CI dg 121 [.ref 31, .int v1] h (fun x g => x = r.1 ∧ g = r.2)) (hq : RtX X (some (.int r.1)) r.2) {rec_58 : Int32 → Int32 → Int32 → Nat → Int32 → Hp → Option (Int32 × Hp)} (hr_58 : ∀ {v1 : Int32} {v2 : Int32} {v3 : Int32} {v4 : Nat} {v5 : Int32} {h : Hp}, rec_58 v1 v2 v3 v4 v5 h = some r → G X d 121 58 [some (.ref 31), some (.int v1), some (.int v2), some (.int v3), some (.ref v4), some (.int v5), none] [] h) {h : Hp} {v1 : Int32} {v2 : Int32} {v4 : Nat} {v5 : Int32} {v6 : Int32} (e : R_121_126 c_121 rec_58 v1 v2 v4 v5 v6 h = some r) : G X d 121 126 [some (.ref 31), some (.int v1), some (.int v2), none, some (.ref v4), some (.int v5), some (.int v6)] [] h := by
  unfold R_121_126 at e
  refine k_121_126 (fun c => ?_) (fun c => ?_)
  · rw [if_neg c] at e; exact r_121_139 hd hgd hc_121 hq hr_58 e
  · rw [if_pos c] at e; exact r_121_133 hd hgd hc_121 hq hr_58 e
noncomputable def R_121_120 (c_121 : Int32 → Hp → Option (Int32 × Hp)) (rec_58 : Int32 → Int32 → Int32 → Nat → Int32 → Hp → Option (Int32 × Hp)) (v1 : Int32) (v2 : Int32) (v3 : Int32) (v4 : Nat) (v5 : Int32) (v6 : Int32) (h : Hp) : Option (Int32 × Hp) := if v3 ≤ v6 then R_121_139 c_121 rec_58 v1 v2 v3 v4 v5 h else R_121_126 c_121 rec_58 v1 v2 v4 v5 v6 h
theorem r_121_120 {X : GX} {d : Nat} {r : Int32 × Hp} {c_121 : Int32 → Hp → Option (Int32 × Hp)} {dg : Nat} (hd : 6 ≤ d) (hgd : dg < d) (hc_121 : ∀ {v1 : Int32} {h : Hp} {r : Int32 × Hp}, c_121 v1 h = some r → CI dg 121 [.ref 31, .int v1] h (fun x g => x = r.1 ∧ g = r.2)) (hq : RtX X (some (.int r.1)) r.2) {rec_58 : Int32 → Int32 → Int32 → Nat → Int32 → Hp → Option (Int32 × Hp)} (hr_58 : ∀ {v1 : Int32} {v2 : Int32} {v3 : Int32} {v4 : Nat} {v5 : Int32} {h : Hp}, rec_58 v1 v2 v3 v4 v5 h = some r → G X d 121 58 [some (.ref 31), some (.int v1), some (.int v2), some (.int v3), some (.ref v4), some (.int v5), none] [] h) {h : Hp} {v1 : Int32} {v2 : Int32} {v3 : Int32} {v4 : Nat} {v5 : Int32} {v6 : Int32} (e : R_121_120 c_121 rec_58 v1 v2 v3 v4 v5 v6 h = some r) : G X d 121 120 [some (.ref 31), some (.int v1), some (.int v2), some (.int v3), some (.ref v4), some (.int v5), some (.int v6)] [] h := by
  unfold R_121_120 at e
  refine k_121_120 (fun c => ?_) (fun c => ?_)
  · rw [if_pos c] at e; exact r_121_139 hd hgd hc_121 hq hr_58 e
  · rw [if_neg c] at e; exact r_121_126 hd hgd hc_121 hq hr_58 e
noncomputable def R_121_117 (c_121 : Int32 → Hp → Option (Int32 × Hp)) (rec_58 : Int32 → Int32 → Int32 → Nat → Int32 → Hp → Option (Int32 × Hp)) (v1 : Int32) (v2 : Int32) (v4 : Nat) (v5 : Int32) (v6 : Int32) (h : Hp) : Option (Int32 × Hp) := if v1 = 0 then R_121_133 c_121 rec_58 v1 v2 v6 v4 v5 h else R_121_139 c_121 rec_58 v1 v2 v6 v4 v5 h
theorem r_121_117 {X : GX} {d : Nat} {r : Int32 × Hp} {c_121 : Int32 → Hp → Option (Int32 × Hp)} {dg : Nat} (hd : 6 ≤ d) (hgd : dg < d) (hc_121 : ∀ {v1 : Int32} {h : Hp} {r : Int32 × Hp}, c_121 v1 h = some r → CI dg 121 [.ref 31, .int v1] h (fun x g => x = r.1 ∧ g = r.2)) (hq : RtX X (some (.int r.1)) r.2) {rec_58 : Int32 → Int32 → Int32 → Nat → Int32 → Hp → Option (Int32 × Hp)} (hr_58 : ∀ {v1 : Int32} {v2 : Int32} {v3 : Int32} {v4 : Nat} {v5 : Int32} {h : Hp}, rec_58 v1 v2 v3 v4 v5 h = some r → G X d 121 58 [some (.ref 31), some (.int v1), some (.int v2), some (.int v3), some (.ref v4), some (.int v5), none] [] h) {h : Hp} {v1 : Int32} {v2 : Int32} {v4 : Nat} {v5 : Int32} {v6 : Int32} (e : R_121_117 c_121 rec_58 v1 v2 v4 v5 v6 h = some r) : G X d 121 117 [some (.ref 31), some (.int v1), some (.int v2), none, some (.ref v4), some (.int v5), some (.int v6)] [] h := by
  unfold R_121_117 at e
  refine k_121_117 (fun c => ?_) (fun c => ?_)
  · rw [if_neg c] at e; exact r_121_139 hd hgd hc_121 hq hr_58 e
  · rw [if_pos c] at e; exact r_121_133 hd hgd hc_121 hq hr_58 e
noncomputable def R_121_111 (c_121 : Int32 → Hp → Option (Int32 × Hp)) (rec_58 : Int32 → Int32 → Int32 → Nat → Int32 → Hp → Option (Int32 × Hp)) (v1 : Int32) (v2 : Int32) (v3 : Int32) (v4 : Nat) (v5 : Int32) (v6 : Int32) (h : Hp) : Option (Int32 × Hp) := if v6 ≤ v3 then R_121_139 c_121 rec_58 v1 v2 v3 v4 v5 h else R_121_117 c_121 rec_58 v1 v2 v4 v5 v6 h
theorem r_121_111 {X : GX} {d : Nat} {r : Int32 × Hp} {c_121 : Int32 → Hp → Option (Int32 × Hp)} {dg : Nat} (hd : 6 ≤ d) (hgd : dg < d) (hc_121 : ∀ {v1 : Int32} {h : Hp} {r : Int32 × Hp}, c_121 v1 h = some r → CI dg 121 [.ref 31, .int v1] h (fun x g => x = r.1 ∧ g = r.2)) (hq : RtX X (some (.int r.1)) r.2) {rec_58 : Int32 → Int32 → Int32 → Nat → Int32 → Hp → Option (Int32 × Hp)} (hr_58 : ∀ {v1 : Int32} {v2 : Int32} {v3 : Int32} {v4 : Nat} {v5 : Int32} {h : Hp}, rec_58 v1 v2 v3 v4 v5 h = some r → G X d 121 58 [some (.ref 31), some (.int v1), some (.int v2), some (.int v3), some (.ref v4), some (.int v5), none] [] h) {h : Hp} {v1 : Int32} {v2 : Int32} {v3 : Int32} {v4 : Nat} {v5 : Int32} {v6 : Int32} (e : R_121_111 c_121 rec_58 v1 v2 v3 v4 v5 v6 h = some r) : G X d 121 111 [some (.ref 31), some (.int v1), some (.int v2), some (.int v3), some (.ref v4), some (.int v5), some (.int v6)] [] h := by
  unfold R_121_111 at e
  refine k_121_111 (fun c => ?_) (fun c => ?_)
  · rw [if_pos c] at e; exact r_121_139 hd hgd hc_121 hq hr_58 e
  · rw [if_neg c] at e; exact r_121_117 hd hgd hc_121 hq hr_58 e
noncomputable def R_121_107 (c_121 : Int32 → Hp → Option (Int32 × Hp)) (rec_58 : Int32 → Int32 → Int32 → Nat → Int32 → Hp → Option (Int32 × Hp)) (v1 : Int32) (v2 : Int32) (v3 : Int32) (v4 : Nat) (v5 : Int32) (v6 : Int32) (h : Hp) : Option (Int32 × Hp) := if v2 = 0 then R_121_120 c_121 rec_58 v1 v2 v3 v4 v5 v6 h else R_121_111 c_121 rec_58 v1 v2 v3 v4 v5 v6 h
theorem r_121_107 {X : GX} {d : Nat} {r : Int32 × Hp} {c_121 : Int32 → Hp → Option (Int32 × Hp)} {dg : Nat} (hd : 6 ≤ d) (hgd : dg < d) (hc_121 : ∀ {v1 : Int32} {h : Hp} {r : Int32 × Hp}, c_121 v1 h = some r → CI dg 121 [.ref 31, .int v1] h (fun x g => x = r.1 ∧ g = r.2)) (hq : RtX X (some (.int r.1)) r.2) {rec_58 : Int32 → Int32 → Int32 → Nat → Int32 → Hp → Option (Int32 × Hp)} (hr_58 : ∀ {v1 : Int32} {v2 : Int32} {v3 : Int32} {v4 : Nat} {v5 : Int32} {h : Hp}, rec_58 v1 v2 v3 v4 v5 h = some r → G X d 121 58 [some (.ref 31), some (.int v1), some (.int v2), some (.int v3), some (.ref v4), some (.int v5), none] [] h) {h : Hp} {v1 : Int32} {v2 : Int32} {v3 : Int32} {v4 : Nat} {v5 : Int32} {v6 : Int32} (e : R_121_107 c_121 rec_58 v1 v2 v3 v4 v5 v6 h = some r) : G X d 121 107 [some (.ref 31), some (.int v1), some (.int v2), some (.int v3), some (.ref v4), some (.int v5), some (.int v6)] [] h := by
  unfold R_121_107 at e
  refine k_121_107 (fun c => ?_) (fun c => ?_)
  · rw [if_pos c] at e; exact r_121_120 hd hgd hc_121 hq hr_58 e
  · rw [if_neg c] at e; exact r_121_111 hd hgd hc_121 hq hr_58 e
noncomputable def R_121_100 (c_121 : Int32 → Hp → Option (Int32 × Hp)) (rec_58 : Int32 → Int32 → Int32 → Nat → Int32 → Hp → Option (Int32 × Hp)) (v1 : Int32) (v2 : Int32) (v3 : Int32) (v4 : Nat) (v5 : Int32) (s0 : Int32) (h : Hp) : Option (Int32 × Hp) := if v5 = 0 then R_121_126 c_121 rec_58 v1 v2 v4 v5 s0 h else R_121_107 c_121 rec_58 v1 v2 v3 v4 v5 s0 h
theorem r_121_100 {X : GX} {d : Nat} {r : Int32 × Hp} {c_121 : Int32 → Hp → Option (Int32 × Hp)} {dg : Nat} (hd : 6 ≤ d) (hgd : dg < d) (hc_121 : ∀ {v1 : Int32} {h : Hp} {r : Int32 × Hp}, c_121 v1 h = some r → CI dg 121 [.ref 31, .int v1] h (fun x g => x = r.1 ∧ g = r.2)) (hq : RtX X (some (.int r.1)) r.2) {rec_58 : Int32 → Int32 → Int32 → Nat → Int32 → Hp → Option (Int32 × Hp)} (hr_58 : ∀ {v1 : Int32} {v2 : Int32} {v3 : Int32} {v4 : Nat} {v5 : Int32} {h : Hp}, rec_58 v1 v2 v3 v4 v5 h = some r → G X d 121 58 [some (.ref 31), some (.int v1), some (.int v2), some (.int v3), some (.ref v4), some (.int v5), none] [] h) {h : Hp} {v1 : Int32} {v2 : Int32} {v3 : Int32} {v4 : Nat} {v5 : Int32} {s0 : Int32} (e : R_121_100 c_121 rec_58 v1 v2 v3 v4 v5 s0 h = some r) : G X d 121 100 [some (.ref 31), some (.int v1), some (.int v2), some (.int v3), some (.ref v4), some (.int v5), none] [.int s0] h := by
  unfold R_121_100 at e
  refine k_121_100 (fun c => ?_) (fun c => ?_)
  · rw [if_pos c] at e; exact r_121_126 hd hgd hc_121 hq hr_58 e
  · rw [if_neg c] at e; exact r_121_107 hd hgd hc_121 hq hr_58 e
noncomputable def R_121_92 (c_121 : Int32 → Hp → Option (Int32 × Hp)) (rec_58 : Int32 → Int32 → Int32 → Nat → Int32 → Hp → Option (Int32 × Hp)) (v1 : Int32) (v2 : Int32) (v3 : Int32) (v4 : Nat) (v5 : Int32) (s0 : Int32) (h : Hp) : Option (Int32 × Hp) := bndI (c_121 (v1 + 1) h) (R_121_100 c_121 rec_58 v1 v2 v3 v4 v5)
theorem r_121_92 {X : GX} {d : Nat} {r : Int32 × Hp} {c_121 : Int32 → Hp → Option (Int32 × Hp)} {dg : Nat} (hd : 6 ≤ d) (hgd : dg < d) (hc_121 : ∀ {v1 : Int32} {h : Hp} {r : Int32 × Hp}, c_121 v1 h = some r → CI dg 121 [.ref 31, .int v1] h (fun x g => x = r.1 ∧ g = r.2)) (hq : RtX X (some (.int r.1)) r.2) {rec_58 : Int32 → Int32 → Int32 → Nat → Int32 → Hp → Option (Int32 × Hp)} (hr_58 : ∀ {v1 : Int32} {v2 : Int32} {v3 : Int32} {v4 : Nat} {v5 : Int32} {h : Hp}, rec_58 v1 v2 v3 v4 v5 h = some r → G X d 121 58 [some (.ref 31), some (.int v1), some (.int v2), some (.int v3), some (.ref v4), some (.int v5), none] [] h) {h : Hp} {v1 : Int32} {v2 : Int32} {v3 : Int32} {v4 : Nat} {v5 : Int32} {s0 : Int32} (e : R_121_92 c_121 rec_58 v1 v2 v3 v4 v5 s0 h = some r) : G X d 121 92 [some (.ref 31), some (.int v1), some (.int v2), some (.int v3), some (.ref v4), some (.int v5), none] [.int s0] h := by
  unfold R_121_92 at e
  obtain ⟨x, h2, e1, e2⟩ := bndI_s e
  refine k_121_92 hgd (hc_121 e1) ?_
  rintro _ _ ⟨rfl, rfl⟩
  exact r_121_100 hd hgd hc_121 hq hr_58 e2
noncomputable def R_121_81 (c_121 : Int32 → Hp → Option (Int32 × Hp)) (rec_58 : Int32 → Int32 → Int32 → Nat → Int32 → Hp → Option (Int32 × Hp)) (v1 : Int32) (v2 : Int32) (v3 : Int32) (v4 : Nat) (v5 : Int32) (h : Hp) : Option (Int32 × Hp) := bndI (S_81 v4 v5 h) (R_121_92 c_121 rec_58 v1 v2 v3 v4 v5)
theorem r_121_81 {X : GX} {d : Nat} {r : Int32 × Hp} {c_121 : Int32 → Hp → Option (Int32 × Hp)} {dg : Nat} (hd : 6 ≤ d) (hgd : dg < d) (hc_121 : ∀ {v1 : Int32} {h : Hp} {r : Int32 × Hp}, c_121 v1 h = some r → CI dg 121 [.ref 31, .int v1] h (fun x g => x = r.1 ∧ g = r.2)) (hq : RtX X (some (.int r.1)) r.2) {rec_58 : Int32 → Int32 → Int32 → Nat → Int32 → Hp → Option (Int32 × Hp)} (hr_58 : ∀ {v1 : Int32} {v2 : Int32} {v3 : Int32} {v4 : Nat} {v5 : Int32} {h : Hp}, rec_58 v1 v2 v3 v4 v5 h = some r → G X d 121 58 [some (.ref 31), some (.int v1), some (.int v2), some (.int v3), some (.ref v4), some (.int v5), none] [] h) {h : Hp} {v1 : Int32} {v2 : Int32} {v3 : Int32} {v4 : Nat} {v5 : Int32} (e : R_121_81 c_121 rec_58 v1 v2 v3 v4 v5 h = some r) : G X d 121 81 [some (.ref 31), some (.int v1), some (.int v2), some (.int v3), some (.ref v4), some (.int v5), none] [] h := by
  unfold R_121_81 at e
  obtain ⟨x, h2, e1, e2⟩ := bndI_s e
  refine k_121_81 (by omega) (t_81 e1) ?_
  rintro _ _ ⟨rfl, rfl⟩
  exact r_121_92 hd hgd hc_121 hq hr_58 e2
noncomputable def R_121_70 (c_121 : Int32 → Hp → Option (Int32 × Hp)) (rec_58 : Int32 → Int32 → Int32 → Nat → Int32 → Hp → Option (Int32 × Hp)) (v1 : Int32) (v2 : Int32) (v3 : Int32) (v4 : Nat) (v5 : Int32) (h : Hp) : Option (Int32 × Hp) := gd (vp_in v1 5 ∧ sh v4 = (1, 3)) (bndV (S_88 v4 (35 + 3 * Int32.toNatClampNeg v1) h) (R_121_81 c_121 rec_58 v1 v2 v3 v4 v5))
theorem r_121_70 {X : GX} {d : Nat} {r : Int32 × Hp} {c_121 : Int32 → Hp → Option (Int32 × Hp)} {dg : Nat} (hd : 6 ≤ d) (hgd : dg < d) (hc_121 : ∀ {v1 : Int32} {h : Hp} {r : Int32 × Hp}, c_121 v1 h = some r → CI dg 121 [.ref 31, .int v1] h (fun x g => x = r.1 ∧ g = r.2)) (hq : RtX X (some (.int r.1)) r.2) {rec_58 : Int32 → Int32 → Int32 → Nat → Int32 → Hp → Option (Int32 × Hp)} (hr_58 : ∀ {v1 : Int32} {v2 : Int32} {v3 : Int32} {v4 : Nat} {v5 : Int32} {h : Hp}, rec_58 v1 v2 v3 v4 v5 h = some r → G X d 121 58 [some (.ref 31), some (.int v1), some (.int v2), some (.int v3), some (.ref v4), some (.int v5), none] [] h) {h : Hp} {v1 : Int32} {v2 : Int32} {v3 : Int32} {v4 : Nat} {v5 : Int32} (e : R_121_70 c_121 rec_58 v1 v2 v3 v4 v5 h = some r) : G X d 121 70 [some (.ref 31), some (.int v1), some (.int v2), some (.int v3), some (.ref v4), some (.int v5), none] [] h := by
  unfold R_121_70 at e
  have g := gd_s e; clear e; obtain ⟨⟨b0, o1⟩, e⟩ := g
  obtain ⟨x, h2, e1, e2⟩ := bndV_s e
  refine k_121_70 b0 o1 (by omega) (t_88 e1) ?_
  rintro _ rfl
  exact r_121_81 hd hgd hc_121 hq hr_58 e2
noncomputable def R_121_58 (c_121 : Int32 → Hp → Option (Int32 × Hp)) (rec_58 : Int32 → Int32 → Int32 → Nat → Int32 → Hp → Option (Int32 × Hp)) (v1 : Int32) (v2 : Int32) (v3 : Int32) (v4 : Nat) (v5 : Int32) (h : Hp) : Option (Int32 × Hp) := if (h 1 7) < v5 then R_121_145 c_121 v3 h else R_121_70 c_121 rec_58 v1 v2 v3 v4 v5 h
theorem r_121_58 {X : GX} {d : Nat} {r : Int32 × Hp} {c_121 : Int32 → Hp → Option (Int32 × Hp)} {dg : Nat} (hd : 6 ≤ d) (hgd : dg < d) (hc_121 : ∀ {v1 : Int32} {h : Hp} {r : Int32 × Hp}, c_121 v1 h = some r → CI dg 121 [.ref 31, .int v1] h (fun x g => x = r.1 ∧ g = r.2)) (hq : RtX X (some (.int r.1)) r.2) {rec_58 : Int32 → Int32 → Int32 → Nat → Int32 → Hp → Option (Int32 × Hp)} (hr_58 : ∀ {v1 : Int32} {v2 : Int32} {v3 : Int32} {v4 : Nat} {v5 : Int32} {h : Hp}, rec_58 v1 v2 v3 v4 v5 h = some r → G X d 121 58 [some (.ref 31), some (.int v1), some (.int v2), some (.int v3), some (.ref v4), some (.int v5), none] [] h) {h : Hp} {v1 : Int32} {v2 : Int32} {v3 : Int32} {v4 : Nat} {v5 : Int32} (e : R_121_58 c_121 rec_58 v1 v2 v3 v4 v5 h = some r) : G X d 121 58 [some (.ref 31), some (.int v1), some (.int v2), some (.int v3), some (.ref v4), some (.int v5), none] [] h := by
  unfold R_121_58 at e
  refine k_121_58 (fun c => ?_) (fun c => ?_)
  · rw [if_pos c] at e; exact r_121_145 hd hgd hc_121 hq e
  · rw [if_neg c] at e; exact r_121_70 hd hgd hc_121 hq hr_58 e
noncomputable def H_121_58 (c_121 : Int32 → Hp → Option (Int32 × Hp)) : Nat → Int32 → Int32 → Int32 → Nat → Int32 → Hp → Option (Int32 × Hp)
  | 0, _, _, _, _, _, _ => none
  | n + 1, v1, v2, v3, v4, v5, h => R_121_58 c_121 (H_121_58 c_121 n) v1 v2 v3 v4 v5 h
theorem h_121_58 {X : GX} {d : Nat} {r : Int32 × Hp} {c_121 : Int32 → Hp → Option (Int32 × Hp)} {dg : Nat} (hd : 6 ≤ d) (hgd : dg < d) (hc_121 : ∀ {v1 : Int32} {h : Hp} {r : Int32 × Hp}, c_121 v1 h = some r → CI dg 121 [.ref 31, .int v1] h (fun x g => x = r.1 ∧ g = r.2)) (hq : RtX X (some (.int r.1)) r.2) {n : Nat} {h : Hp} {v1 : Int32} {v2 : Int32} {v3 : Int32} {v4 : Nat} {v5 : Int32} (e : H_121_58 c_121 n v1 v2 v3 v4 v5 h = some r) : G X d 121 58 [some (.ref 31), some (.int v1), some (.int v2), some (.int v3), some (.ref v4), some (.int v5), none] [] h := by
  induction n generalizing v1 v2 v3 v4 v5 h with
  | zero => cases e
  | succ n ih => exact r_121_58 hd hgd hc_121 hq (fun e => ih e) e
noncomputable def R_121_41 (c_121 : Int32 → Hp → Option (Int32 × Hp)) (v1 : Int32) (h : Hp) : Option (Int32 × Hp) := gd (vp_in (v1 + 1) 5) (H_121_58 c_121 fuL v1 0 0 (35 + 3 * Int32.toNatClampNeg (v1 + 1)) 0 h)
theorem r_121_41 {X : GX} {d : Nat} {r : Int32 × Hp} {c_121 : Int32 → Hp → Option (Int32 × Hp)} {dg : Nat} (hd : 6 ≤ d) (hgd : dg < d) (hc_121 : ∀ {v1 : Int32} {h : Hp} {r : Int32 × Hp}, c_121 v1 h = some r → CI dg 121 [.ref 31, .int v1] h (fun x g => x = r.1 ∧ g = r.2)) (hq : RtX X (some (.int r.1)) r.2) {h : Hp} {v1 : Int32} (e : R_121_41 c_121 v1 h = some r) : G X d 121 41 [some (.ref 31), some (.int v1), none, none, none, none, none] [] h := by
  unfold R_121_41 at e
  have g := gd_s e; clear e; obtain ⟨b0, e⟩ := g
  exact k_121_41 b0 (h_121_58 hd hgd hc_121 hq e)
noncomputable def R_121_37 (c_121 : Int32 → Hp → Option (Int32 × Hp)) (v1 : Int32) (h : Hp) : Option (Int32 × Hp) := gd (vp_in (v1 + 1) 5) (H_121_58 c_121 fuL v1 1 0 (35 + 3 * Int32.toNatClampNeg (v1 + 1)) 0 h)
theorem r_121_37 {X : GX} {d : Nat} {r : Int32 × Hp} {c_121 : Int32 → Hp → Option (Int32 × Hp)} {dg : Nat} (hd : 6 ≤ d) (hgd : dg < d) (hc_121 : ∀ {v1 : Int32} {h : Hp} {r : Int32 × Hp}, c_121 v1 h = some r → CI dg 121 [.ref 31, .int v1] h (fun x g => x = r.1 ∧ g = r.2)) (hq : RtX X (some (.int r.1)) r.2) {h : Hp} {v1 : Int32} (e : R_121_37 c_121 v1 h = some r) : G X d 121 37 [some (.ref 31), some (.int v1), none, none, none, none, none] [] h := by
  unfold R_121_37 at e
  have g := gd_s e; clear e; obtain ⟨b0, e⟩ := g
  exact k_121_37 b0 (h_121_58 hd hgd hc_121 hq e)
noncomputable def R_121_31 (c_121 : Int32 → Hp → Option (Int32 × Hp)) (v1 : Int32) (h : Hp) : Option (Int32 × Hp) := if (v1 - v1 / 2 * 2) = 0 then R_121_37 c_121 v1 h else R_121_41 c_121 v1 h
theorem r_121_31 {X : GX} {d : Nat} {r : Int32 × Hp} {c_121 : Int32 → Hp → Option (Int32 × Hp)} {dg : Nat} (hd : 6 ≤ d) (hgd : dg < d) (hc_121 : ∀ {v1 : Int32} {h : Hp} {r : Int32 × Hp}, c_121 v1 h = some r → CI dg 121 [.ref 31, .int v1] h (fun x g => x = r.1 ∧ g = r.2)) (hq : RtX X (some (.int r.1)) r.2) {h : Hp} {v1 : Int32} (e : R_121_31 c_121 v1 h = some r) : G X d 121 31 [some (.ref 31), some (.int v1), none, none, none, none, none] [] h := by
  unfold R_121_31 at e
  refine k_121_31 (fun c => ?_) (fun c => ?_)
  · rw [if_neg c] at e; exact r_121_41 hd hgd hc_121 hq e
  · rw [if_pos c] at e; exact r_121_37 hd hgd hc_121 hq e
noncomputable def R_121_8 (c_121 : Int32 → Hp → Option (Int32 × Hp)) (v1 : Int32) (h : Hp) : Option (Int32 × Hp) := if v1 < 4 then R_121_31 c_121 v1 h else R_121_13 c_121 v1 h
theorem r_121_8 {X : GX} {d : Nat} {r : Int32 × Hp} {c_121 : Int32 → Hp → Option (Int32 × Hp)} {dg : Nat} (hd : 6 ≤ d) (hgd : dg < d) (hc_121 : ∀ {v1 : Int32} {h : Hp} {r : Int32 × Hp}, c_121 v1 h = some r → CI dg 121 [.ref 31, .int v1] h (fun x g => x = r.1 ∧ g = r.2)) (hq : RtX X (some (.int r.1)) r.2) {h : Hp} {v1 : Int32} (e : R_121_8 c_121 v1 h = some r) : G X d 121 8 [some (.ref 31), some (.int v1), none, none, none, none, none] [] h := by
  unfold R_121_8 at e
  refine k_121_8 (fun c => ?_) (fun c => ?_)
  · rw [if_pos c] at e; exact r_121_31 hd hgd hc_121 hq e
  · rw [if_neg c] at e; exact r_121_13 hd hgd hc_121 hq e
noncomputable def R_121_0 (c_121 : Int32 → Hp → Option (Int32 × Hp)) (v1 : Int32) (h : Hp) : Option (Int32 × Hp) := if (h 31 5) ≤ v1 then R_121_13 c_121 v1 h else R_121_8 c_121 v1 h
theorem r_121_0 {X : GX} {d : Nat} {r : Int32 × Hp} {c_121 : Int32 → Hp → Option (Int32 × Hp)} {dg : Nat} (hd : 6 ≤ d) (hgd : dg < d) (hc_121 : ∀ {v1 : Int32} {h : Hp} {r : Int32 × Hp}, c_121 v1 h = some r → CI dg 121 [.ref 31, .int v1] h (fun x g => x = r.1 ∧ g = r.2)) (hq : RtX X (some (.int r.1)) r.2) {h : Hp} {v1 : Int32} (e : R_121_0 c_121 v1 h = some r) : G X d 121 0 [some (.ref 31), some (.int v1), none, none, none, none, none] [] h := by
  unfold R_121_0 at e
  refine k_121_0 (fun c => ?_) (fun c => ?_)
  · rw [if_pos c] at e; exact r_121_13 hd hgd hc_121 hq e
  · rw [if_neg c] at e; exact r_121_8 hd hgd hc_121 hq e
noncomputable def SG_121 : Nat → (Int32 → Hp → Option (Int32 × Hp))
  | 0 => (fun _ _ => none)
  | n + 1 => (fun v1 h => R_121_0 (SG_121 n) v1 h)
set_option maxRecDepth 100000 in
theorem tg_121 : ∀ n, (∀ {v1 : Int32} {h : Hp} {r : Int32 × Hp}, (SG_121 n) v1 h = some r → CI (6 + n) 121 [.ref 31, .int v1] h (fun x g => x = r.1 ∧ g = r.2)) := by
  intro n
  induction n with
  | zero => exact fun e => by cases e
  | succ n ih =>
    have i121 := @ih
    intro v1 h r e
    · refine C.of mo_121 (Nat.le_of_ble_eq_true rfl) (fun X hq => ?_)
      exact r_121_0 (by omega) (show 6 + n < 6 + (n + 1) by omega) (fun e => i121 e) (hq _ _ ⟨_, rfl, rfl, rfl⟩) e
noncomputable def S_121 (v1 : Int32) (h : Hp) : Option (Int32 × Hp) := (SG_121 60) v1 h
theorem t_121 {v1 : Int32} {h : Hp} {r : Int32 × Hp} (e : S_121 v1 h = some r) : CI 66 121 [.ref 31, .int v1] h (fun x g => x = r.1 ∧ g = r.2) := (tg_121 60) e
/-! 120 PlayedTruth$Ahead.playGame(I)I -/
noncomputable def R_120_19 (s0 : Int32) (h : Hp) : Option (Int32 × Hp) := some (s0, h)
theorem r_120_19 {X : GX} {d : Nat} {r : Int32 × Hp} (hd : 67 ≤ d) (hq : RtX X (some (.int r.1)) r.2) {h : Hp} {s0 : Int32} (e : R_120_19 s0 h = some r) : G X d 120 19 [none, none] [.int s0] h := by
  unfold R_120_19 at e
  rw [← Option.some.inj e] at hq
  exact k_120_19 hq
noncomputable def R_120_13 (s0 : Nat) (h : Hp) : Option (Int32 × Hp) := bndI (S_121 0 h) (R_120_19)
theorem r_120_13 {X : GX} {d : Nat} {r : Int32 × Hp} (hd : 67 ≤ d) (hq : RtX X (some (.int r.1)) r.2) {h : Hp} {s0 : Nat} (e : R_120_13 s0 h = some r) : G X d 120 13 [some (.ref 31), none] [.ref s0] h := by
  unfold R_120_13 at e
  obtain ⟨x, h2, e1, e2⟩ := bndI_s e
  refine k_120_13 (by omega) (t_121 e1) ?_
  rintro _ _ ⟨rfl, rfl⟩
  exact r_120_19 hd hq e2
noncomputable def R_120_6 (s1 : Nat) (s0 : Int32) (h : Hp) : Option (Int32 × Hp) := gd (sh s1 = (1, 1)) (bndR (S_87 ((wr h s1 5 s0))) (R_120_13))
theorem r_120_6 {X : GX} {d : Nat} {r : Int32 × Hp} (hd : 67 ≤ d) (hq : RtX X (some (.int r.1)) r.2) {h : Hp} {s1 : Nat} {s0 : Int32} (e : R_120_6 s1 s0 h = some r) : G X d 120 6 [some (.ref 31), none] [.int s0, .ref s1] h := by
  unfold R_120_6 at e
  have g := gd_s e; clear e; obtain ⟨o0, e⟩ := g
  obtain ⟨x, h2, e1, e2⟩ := bndR_s e
  refine k_120_6 o0 (by omega) (t_87 e1) ?_
  rintro _ _ ⟨rfl, rfl⟩
  exact r_120_13 hd hq e2
noncomputable def R_120_0 (v1 : Int32) (h : Hp) : Option (Int32 × Hp) := bndI (S_110 v1 h) (R_120_6 31)
theorem r_120_0 {X : GX} {d : Nat} {r : Int32 × Hp} (hd : 67 ≤ d) (hq : RtX X (some (.int r.1)) r.2) {h : Hp} {v1 : Int32} (e : R_120_0 v1 h = some r) : G X d 120 0 [some (.ref 31), some (.int v1)] [] h := by
  unfold R_120_0 at e
  obtain ⟨x, h2, e1, e2⟩ := bndI_s e
  refine k_120_0 (by omega) (t_110 e1) ?_
  rintro _ _ ⟨rfl, rfl⟩
  exact r_120_6 hd hq e2
noncomputable def S_120 (v1 : Int32) (h : Hp) : Option (Int32 × Hp) := R_120_0 v1 h
set_option maxRecDepth 100000 in
theorem t_120 {v1 : Int32} {h : Hp} {r : Int32 × Hp} (e : S_120 v1 h = some r) : CI 67 120 [.ref 31, .int v1] h (fun x g => x = r.1 ∧ g = r.2) := by
  refine C.of mo_120 (Nat.le_of_ble_eq_true rfl) (fun X hq => ?_)
  exact r_120_0 (Nat.le_refl _) (hq _ _ ⟨_, rfl, rfl, rfl⟩) e
/-! 119 PlayedTruth.game(I)I -/
noncomputable def R_119_19 (s0 : Int32) (h : Hp) : Option (Int32 × Hp) := some (s0, h)
theorem r_119_19 {X : GX} {d : Nat} {r : Int32 × Hp} (hd : 68 ≤ d) (hq : RtX X (some (.int r.1)) r.2) {h : Hp} {s0 : Int32} (e : R_119_19 s0 h = some r) : G X d 119 19 [none, none] [.int s0] h := by
  unfold R_119_19 at e
  rw [← Option.some.inj e] at hq
  exact k_119_19 hq
noncomputable def R_119_11 (v1 : Int32) (h : Hp) : Option (Int32 × Hp) := bndI (S_120 v1 h) (R_119_19)
theorem r_119_11 {X : GX} {d : Nat} {r : Int32 × Hp} (hd : 68 ≤ d) (hq : RtX X (some (.int r.1)) r.2) {h : Hp} {v1 : Int32} (e : R_119_11 v1 h = some r) : G X d 119 11 [some (.ref 0), some (.int v1)] [] h := by
  unfold R_119_11 at e
  obtain ⟨x, h2, e1, e2⟩ := bndI_s e
  refine k_119_11 (by omega) (t_120 e1) ?_
  rintro _ _ ⟨rfl, rfl⟩
  exact r_119_19 hd hq e2
noncomputable def R_119_9 (h : Hp) : Option (Int32 × Hp) := some (((-1)), h)
theorem r_119_9 {X : GX} {d : Nat} {r : Int32 × Hp} (hd : 68 ≤ d) (hq : RtX X (some (.int r.1)) r.2) {h : Hp} (e : R_119_9 h = some r) : G X d 119 9 [none, none] [] h := by
  unfold R_119_9 at e
  rw [← Option.some.inj e] at hq
  exact k_119_9 hq
noncomputable def R_119_6 (v1 : Int32) (s0 : Int32) (h : Hp) : Option (Int32 × Hp) := if s0 = 0 then R_119_9 h else R_119_11 v1 h
theorem r_119_6 {X : GX} {d : Nat} {r : Int32 × Hp} (hd : 68 ≤ d) (hq : RtX X (some (.int r.1)) r.2) {h : Hp} {v1 : Int32} {s0 : Int32} (e : R_119_6 v1 s0 h = some r) : G X d 119 6 [some (.ref 0), some (.int v1)] [.int s0] h := by
  unfold R_119_6 at e
  refine k_119_6 (fun c => ?_) (fun c => ?_)
  · rw [if_neg c] at e; exact r_119_11 hd hq e
  · rw [if_pos c] at e; exact r_119_9 hd hq e
noncomputable def R_119_0 (v1 : Int32) (h : Hp) : Option (Int32 × Hp) := bndI (S_11 v1 1 4 h) (R_119_6 v1)
theorem r_119_0 {X : GX} {d : Nat} {r : Int32 × Hp} (hd : 68 ≤ d) (hq : RtX X (some (.int r.1)) r.2) {h : Hp} {v1 : Int32} (e : R_119_0 v1 h = some r) : G X d 119 0 [some (.ref 0), some (.int v1)] [] h := by
  unfold R_119_0 at e
  obtain ⟨x, h2, e1, e2⟩ := bndI_s e
  refine k_119_0 (by omega) (t_11 e1) ?_
  rintro _ _ ⟨rfl, rfl⟩
  exact r_119_6 hd hq e2
noncomputable def S_119 (v1 : Int32) (h : Hp) : Option (Int32 × Hp) := R_119_0 v1 h
set_option maxRecDepth 100000 in
theorem t_119 {v1 : Int32} {h : Hp} {r : Int32 × Hp} (e : S_119 v1 h = some r) : CI 68 119 [.ref 0, .int v1] h (fun x g => x = r.1 ∧ g = r.2) := by
  refine C.of mo_119 (Nat.le_of_ble_eq_true rfl) (fun X hq => ?_)
  exact r_119_0 (Nat.le_refl _) (hq _ _ ⟨_, rfl, rfl, rfl⟩) e
/-! 122 PlayedTruth.play(I)I -/
noncomputable def R_122_36 (s0 : Int32) (h : Hp) : Option (Int32 × Hp) := some ((h 31 11), h)
theorem r_122_36 {X : GX} {d : Nat} {r : Int32 × Hp} (hd : 68 ≤ d) (hq : RtX X (some (.int r.1)) r.2) {h : Hp} {s0 : Int32} (e : R_122_36 s0 h = some r) : G X d 122 36 [some (.ref 0), none] [.int s0] h := by
  unfold R_122_36 at e
  rw [← Option.some.inj e] at hq
  exact k_122_36 hq
noncomputable def R_122_28 (v1 : Int32) (h : Hp) : Option (Int32 × Hp) := bndI (S_120 v1 h) (R_122_36)
theorem r_122_28 {X : GX} {d : Nat} {r : Int32 × Hp} (hd : 68 ≤ d) (hq : RtX X (some (.int r.1)) r.2) {h : Hp} {v1 : Int32} (e : R_122_28 v1 h = some r) : G X d 122 28 [some (.ref 0), some (.int v1)] [] h := by
  unfold R_122_28 at e
  obtain ⟨x, h2, e1, e2⟩ := bndI_s e
  refine k_122_28 (by omega) (t_120 e1) ?_
  rintro _ _ ⟨rfl, rfl⟩
  exact r_122_36 hd hq e2
noncomputable def R_122_25 (h : Hp) : Option (Int32 × Hp) := some (((-3)), h)
theorem r_122_25 {X : GX} {d : Nat} {r : Int32 × Hp} (hd : 68 ≤ d) (hq : RtX X (some (.int r.1)) r.2) {h : Hp} (e : R_122_25 h = some r) : G X d 122 25 [none, none] [] h := by
  unfold R_122_25 at e
  rw [← Option.some.inj e] at hq
  exact k_122_25 hq
noncomputable def R_122_22 (v1 : Int32) (s0 : Int32) (h : Hp) : Option (Int32 × Hp) := if s0 = 0 then R_122_28 v1 h else R_122_25 h
theorem r_122_22 {X : GX} {d : Nat} {r : Int32 × Hp} (hd : 68 ≤ d) (hq : RtX X (some (.int r.1)) r.2) {h : Hp} {v1 : Int32} {s0 : Int32} (e : R_122_22 v1 s0 h = some r) : G X d 122 22 [some (.ref 0), some (.int v1)] [.int s0] h := by
  unfold R_122_22 at e
  refine k_122_22 (fun c => ?_) (fun c => ?_)
  · rw [if_pos c] at e; exact r_122_28 hd hq e
  · rw [if_neg c] at e; exact r_122_25 hd hq e
noncomputable def R_122_11 (v1 : Int32) (h : Hp) : Option (Int32 × Hp) := bndI (S_38 13 h) (R_122_22 v1)
theorem r_122_11 {X : GX} {d : Nat} {r : Int32 × Hp} (hd : 68 ≤ d) (hq : RtX X (some (.int r.1)) r.2) {h : Hp} {v1 : Int32} (e : R_122_11 v1 h = some r) : G X d 122 11 [some (.ref 0), some (.int v1)] [] h := by
  unfold R_122_11 at e
  obtain ⟨x, h2, e1, e2⟩ := bndI_s e
  refine k_122_11 (by omega) (t_38 e1) ?_
  rintro _ _ ⟨rfl, rfl⟩
  exact r_122_22 hd hq e2
noncomputable def R_122_9 (h : Hp) : Option (Int32 × Hp) := some (((-1)), h)
theorem r_122_9 {X : GX} {d : Nat} {r : Int32 × Hp} (hd : 68 ≤ d) (hq : RtX X (some (.int r.1)) r.2) {h : Hp} (e : R_122_9 h = some r) : G X d 122 9 [none, none] [] h := by
  unfold R_122_9 at e
  rw [← Option.some.inj e] at hq
  exact k_122_9 hq
noncomputable def R_122_6 (v1 : Int32) (s0 : Int32) (h : Hp) : Option (Int32 × Hp) := if s0 = 0 then R_122_9 h else R_122_11 v1 h
theorem r_122_6 {X : GX} {d : Nat} {r : Int32 × Hp} (hd : 68 ≤ d) (hq : RtX X (some (.int r.1)) r.2) {h : Hp} {v1 : Int32} {s0 : Int32} (e : R_122_6 v1 s0 h = some r) : G X d 122 6 [some (.ref 0), some (.int v1)] [.int s0] h := by
  unfold R_122_6 at e
  refine k_122_6 (fun c => ?_) (fun c => ?_)
  · rw [if_neg c] at e; exact r_122_11 hd hq e
  · rw [if_pos c] at e; exact r_122_9 hd hq e
noncomputable def R_122_0 (v1 : Int32) (h : Hp) : Option (Int32 × Hp) := bndI (S_11 v1 1 4 h) (R_122_6 v1)
theorem r_122_0 {X : GX} {d : Nat} {r : Int32 × Hp} (hd : 68 ≤ d) (hq : RtX X (some (.int r.1)) r.2) {h : Hp} {v1 : Int32} (e : R_122_0 v1 h = some r) : G X d 122 0 [some (.ref 0), some (.int v1)] [] h := by
  unfold R_122_0 at e
  obtain ⟨x, h2, e1, e2⟩ := bndI_s e
  refine k_122_0 (by omega) (t_11 e1) ?_
  rintro _ _ ⟨rfl, rfl⟩
  exact r_122_6 hd hq e2
noncomputable def S_122 (v1 : Int32) (h : Hp) : Option (Int32 × Hp) := R_122_0 v1 h
set_option maxRecDepth 100000 in
theorem t_122 {v1 : Int32} {h : Hp} {r : Int32 × Hp} (e : S_122 v1 h = some r) : CI 68 122 [.ref 0, .int v1] h (fun x g => x = r.1 ∧ g = r.2) := by
  refine C.of mo_122 (Nat.le_of_ble_eq_true rfl) (fun X hq => ?_)
  exact r_122_0 (Nat.le_refl _) (hq _ _ ⟨_, rfl, rfl, rfl⟩) e
/-! 124 PlayedTruth$Strangers.add(IIII)I -/
noncomputable def R_124_12 (v1 : Int32) (v2 : Int32) (v3 : Int32) (v4 : Int32) (h : Hp) : Option (Int32 × Hp) := gd (IA 17 (h 16 4) ∧ IA 18 ((wr h 17 (Int32.toNatClampNeg (h 16 4)) v1) 16 4) ∧ IA 19 ((wr (wr h 17 (Int32.toNatClampNeg (h 16 4)) v1) 18 (Int32.toNatClampNeg ((wr h 17 (Int32.toNatClampNeg (h 16 4)) v1) 16 4)) v2) 16 4) ∧ IA 20 ((wr (wr (wr h 17 (Int32.toNatClampNeg (h 16 4)) v1) 18 (Int32.toNatClampNeg ((wr h 17 (Int32.toNatClampNeg (h 16 4)) v1) 16 4)) v2) 19 (Int32.toNatClampNeg ((wr (wr h 17 (Int32.toNatClampNeg (h 16 4)) v1) 18 (Int32.toNatClampNeg ((wr h 17 (Int32.toNatClampNeg (h 16 4)) v1) 16 4)) v2) 16 4)) v3) 16 4)) (some (((wr (wr (wr (wr h 17 (Int32.toNatClampNeg (h 16 4)) v1) 18 (Int32.toNatClampNeg ((wr h 17 (Int32.toNatClampNeg (h 16 4)) v1) 16 4)) v2) 19 (Int32.toNatClampNeg ((wr (wr h 17 (Int32.toNatClampNeg (h 16 4)) v1) 18 (Int32.toNatClampNeg ((wr h 17 (Int32.toNatClampNeg (h 16 4)) v1) 16 4)) v2) 16 4)) v3) 20 (Int32.toNatClampNeg ((wr (wr (wr h 17 (Int32.toNatClampNeg (h 16 4)) v1) 18 (Int32.toNatClampNeg ((wr h 17 (Int32.toNatClampNeg (h 16 4)) v1) 16 4)) v2) 19 (Int32.toNatClampNeg ((wr (wr h 17 (Int32.toNatClampNeg (h 16 4)) v1) 18 (Int32.toNatClampNeg ((wr h 17 (Int32.toNatClampNeg (h 16 4)) v1) 16 4)) v2) 16 4)) v3) 16 4)) v4) 16 4), (wr (wr (wr (wr (wr h 17 (Int32.toNatClampNeg (h 16 4)) v1) 18 (Int32.toNatClampNeg ((wr h 17 (Int32.toNatClampNeg (h 16 4)) v1) 16 4)) v2) 19 (Int32.toNatClampNeg ((wr (wr h 17 (Int32.toNatClampNeg (h 16 4)) v1) 18 (Int32.toNatClampNeg ((wr h 17 (Int32.toNatClampNeg (h 16 4)) v1) 16 4)) v2) 16 4)) v3) 20 (Int32.toNatClampNeg ((wr (wr (wr h 17 (Int32.toNatClampNeg (h 16 4)) v1) 18 (Int32.toNatClampNeg ((wr h 17 (Int32.toNatClampNeg (h 16 4)) v1) 16 4)) v2) 19 (Int32.toNatClampNeg ((wr (wr h 17 (Int32.toNatClampNeg (h 16 4)) v1) 18 (Int32.toNatClampNeg ((wr h 17 (Int32.toNatClampNeg (h 16 4)) v1) 16 4)) v2) 16 4)) v3) 16 4)) v4) 16 4 (((wr (wr (wr (wr h 17 (Int32.toNatClampNeg (h 16 4)) v1) 18 (Int32.toNatClampNeg ((wr h 17 (Int32.toNatClampNeg (h 16 4)) v1) 16 4)) v2) 19 (Int32.toNatClampNeg ((wr (wr h 17 (Int32.toNatClampNeg (h 16 4)) v1) 18 (Int32.toNatClampNeg ((wr h 17 (Int32.toNatClampNeg (h 16 4)) v1) 16 4)) v2) 16 4)) v3) 20 (Int32.toNatClampNeg ((wr (wr (wr h 17 (Int32.toNatClampNeg (h 16 4)) v1) 18 (Int32.toNatClampNeg ((wr h 17 (Int32.toNatClampNeg (h 16 4)) v1) 16 4)) v2) 19 (Int32.toNatClampNeg ((wr (wr h 17 (Int32.toNatClampNeg (h 16 4)) v1) 18 (Int32.toNatClampNeg ((wr h 17 (Int32.toNatClampNeg (h 16 4)) v1) 16 4)) v2) 16 4)) v3) 16 4)) v4) 16 4) + 1))))
set_option maxRecDepth 100000 in
theorem r_124_12 {X : GX} {d : Nat} {r : Int32 × Hp} (hd : 1 ≤ d) (hq : RtX X (some (.int r.1)) r.2) {h : Hp} {v1 : Int32} {v2 : Int32} {v3 : Int32} {v4 : Int32} (e : R_124_12 v1 v2 v3 v4 h = some r) : G X d 124 12 [some (.ref 16), some (.int v1), some (.int v2), some (.int v3), some (.int v4)] [] h := by
  unfold R_124_12 at e
  have g := gd_s e; clear e; obtain ⟨⟨b0, b1, b2, b3⟩, e⟩ := g
  rw [← Option.some.inj e] at hq
  exact k_124_12 b0 b1 b2 b3 hq
noncomputable def R_124_9 (h : Hp) : Option (Int32 × Hp) := some (((-2)), h)
theorem r_124_9 {X : GX} {d : Nat} {r : Int32 × Hp} (hd : 1 ≤ d) (hq : RtX X (some (.int r.1)) r.2) {h : Hp} (e : R_124_9 h = some r) : G X d 124 9 [none, none, none, none, none] [] h := by
  unfold R_124_9 at e
  rw [← Option.some.inj e] at hq
  exact k_124_9 hq
noncomputable def R_124_0 (v1 : Int32) (v2 : Int32) (v3 : Int32) (v4 : Int32) (h : Hp) : Option (Int32 × Hp) := if (h 16 4) < 6 then R_124_12 v1 v2 v3 v4 h else R_124_9 h
theorem r_124_0 {X : GX} {d : Nat} {r : Int32 × Hp} (hd : 1 ≤ d) (hq : RtX X (some (.int r.1)) r.2) {h : Hp} {v1 : Int32} {v2 : Int32} {v3 : Int32} {v4 : Int32} (e : R_124_0 v1 v2 v3 v4 h = some r) : G X d 124 0 [some (.ref 16), some (.int v1), some (.int v2), some (.int v3), some (.int v4)] [] h := by
  unfold R_124_0 at e
  refine k_124_0 (fun c => ?_) (fun c => ?_)
  · rw [if_pos c] at e; exact r_124_12 hd hq e
  · rw [if_neg c] at e; exact r_124_9 hd hq e
noncomputable def S_124 (v1 : Int32) (v2 : Int32) (v3 : Int32) (v4 : Int32) (h : Hp) : Option (Int32 × Hp) := R_124_0 v1 v2 v3 v4 h
set_option maxRecDepth 100000 in
theorem t_124 {v1 : Int32} {v2 : Int32} {v3 : Int32} {v4 : Int32} {h : Hp} {r : Int32 × Hp} (e : S_124 v1 v2 v3 v4 h = some r) : CI 1 124 [.ref 16, .int v1, .int v2, .int v3, .int v4] h (fun x g => x = r.1 ∧ g = r.2) := by
  refine C.of mo_124 (Nat.le_of_ble_eq_true rfl) (fun X hq => ?_)
  exact r_124_0 (Nat.le_refl _) (hq _ _ ⟨_, rfl, rfl, rfl⟩) e
/-! 123 PlayedTruth.report(IIII)I -/
noncomputable def R_123_19 (h : Hp) : Option (Int32 × Hp) := some (((-1)), h)
theorem r_123_19 {X : GX} {d : Nat} {r : Int32 × Hp} (hd : 2 ≤ d) (hq : RtX X (some (.int r.1)) r.2) {h : Hp} (e : R_123_19 h = some r) : G X d 123 19 [none, none, none, none, none, none] [] h := by
  unfold R_123_19 at e
  rw [← Option.some.inj e] at hq
  exact k_123_19 hq
noncomputable def R_123_62 (h : Hp) : Option (Int32 × Hp) := some (((-1)), h)
theorem r_123_62 {X : GX} {d : Nat} {r : Int32 × Hp} (hd : 2 ≤ d) (hq : RtX X (some (.int r.1)) r.2) {h : Hp} (e : R_123_62 h = some r) : G X d 123 62 [none, none, none, none, none, none] [] h := by
  unfold R_123_62 at e
  rw [← Option.some.inj e] at hq
  exact k_123_62 hq
noncomputable def R_123_76 (s0 : Int32) (h : Hp) : Option (Int32 × Hp) := some (s0, h)
theorem r_123_76 {X : GX} {d : Nat} {r : Int32 × Hp} (hd : 2 ≤ d) (hq : RtX X (some (.int r.1)) r.2) {h : Hp} {s0 : Int32} (e : R_123_76 s0 h = some r) : G X d 123 76 [none, none, none, none, none, none] [.int s0] h := by
  unfold R_123_76 at e
  rw [← Option.some.inj e] at hq
  exact k_123_76 hq
noncomputable def R_123_64 (v1 : Int32) (v2 : Int32) (v3 : Int32) (v4 : Int32) (h : Hp) : Option (Int32 × Hp) := bndI (S_124 v1 v2 v3 v4 h) (R_123_76)
theorem r_123_64 {X : GX} {d : Nat} {r : Int32 × Hp} (hd : 2 ≤ d) (hq : RtX X (some (.int r.1)) r.2) {h : Hp} {v1 : Int32} {v2 : Int32} {v3 : Int32} {v4 : Int32} (e : R_123_64 v1 v2 v3 v4 h = some r) : G X d 123 64 [some (.ref 0), some (.int v1), some (.int v2), some (.int v3), some (.int v4), none] [] h := by
  unfold R_123_64 at e
  obtain ⟨x, h2, e1, e2⟩ := bndI_s e
  refine k_123_64 (by omega) (t_124 e1) ?_
  rintro _ _ ⟨rfl, rfl⟩
  exact r_123_76 hd hq e2
noncomputable def R_123_56 (v1 : Int32) (v2 : Int32) (v3 : Int32) (v4 : Int32) (h : Hp) : Option (Int32 × Hp) := if v3 ≤ v4 then R_123_64 v1 v2 v3 v4 h else R_123_62 h
theorem r_123_56 {X : GX} {d : Nat} {r : Int32 × Hp} (hd : 2 ≤ d) (hq : RtX X (some (.int r.1)) r.2) {h : Hp} {v1 : Int32} {v2 : Int32} {v3 : Int32} {v4 : Int32} (e : R_123_56 v1 v2 v3 v4 h = some r) : G X d 123 56 [some (.ref 0), some (.int v1), some (.int v2), some (.int v3), some (.int v4), none] [] h := by
  unfold R_123_56 at e
  refine k_123_56 (fun c => ?_) (fun c => ?_)
  · rw [if_pos c] at e; exact r_123_64 hd hq e
  · rw [if_neg c] at e; exact r_123_62 hd hq e
noncomputable def R_123_53 (v1 : Int32) (v2 : Int32) (v3 : Int32) (v4 : Int32) (s0 : Int32) (h : Hp) : Option (Int32 × Hp) := if s0 = 0 then R_123_62 h else R_123_56 v1 v2 v3 v4 h
theorem r_123_53 {X : GX} {d : Nat} {r : Int32 × Hp} (hd : 2 ≤ d) (hq : RtX X (some (.int r.1)) r.2) {h : Hp} {v1 : Int32} {v2 : Int32} {v3 : Int32} {v4 : Int32} {s0 : Int32} (e : R_123_53 v1 v2 v3 v4 s0 h = some r) : G X d 123 53 [some (.ref 0), some (.int v1), some (.int v2), some (.int v3), some (.int v4), none] [.int s0] h := by
  unfold R_123_53 at e
  refine k_123_53 (fun c => ?_) (fun c => ?_)
  · rw [if_pos c] at e; exact r_123_62 hd hq e
  · rw [if_neg c] at e; exact r_123_56 hd hq e
noncomputable def R_123_45 (v1 : Int32) (v2 : Int32) (v3 : Int32) (v4 : Int32) (v5 : Int32) (h : Hp) : Option (Int32 × Hp) := bndI (S_11 v4 0 v5 h) (R_123_53 v1 v2 v3 v4)
theorem r_123_45 {X : GX} {d : Nat} {r : Int32 × Hp} (hd : 2 ≤ d) (hq : RtX X (some (.int r.1)) r.2) {h : Hp} {v1 : Int32} {v2 : Int32} {v3 : Int32} {v4 : Int32} {v5 : Int32} (e : R_123_45 v1 v2 v3 v4 v5 h = some r) : G X d 123 45 [some (.ref 0), some (.int v1), some (.int v2), some (.int v3), some (.int v4), some (.int v5)] [] h := by
  unfold R_123_45 at e
  obtain ⟨x, h2, e1, e2⟩ := bndI_s e
  refine k_123_45 (by omega) (t_11 e1) ?_
  rintro _ _ ⟨rfl, rfl⟩
  exact r_123_53 hd hq e2
noncomputable def R_123_42 (v1 : Int32) (v2 : Int32) (v3 : Int32) (v4 : Int32) (v5 : Int32) (s0 : Int32) (h : Hp) : Option (Int32 × Hp) := if s0 = 0 then R_123_62 h else R_123_45 v1 v2 v3 v4 v5 h
theorem r_123_42 {X : GX} {d : Nat} {r : Int32 × Hp} (hd : 2 ≤ d) (hq : RtX X (some (.int r.1)) r.2) {h : Hp} {v1 : Int32} {v2 : Int32} {v3 : Int32} {v4 : Int32} {v5 : Int32} {s0 : Int32} (e : R_123_42 v1 v2 v3 v4 v5 s0 h = some r) : G X d 123 42 [some (.ref 0), some (.int v1), some (.int v2), some (.int v3), some (.int v4), some (.int v5)] [.int s0] h := by
  unfold R_123_42 at e
  refine k_123_42 (fun c => ?_) (fun c => ?_)
  · rw [if_pos c] at e; exact r_123_62 hd hq e
  · rw [if_neg c] at e; exact r_123_45 hd hq e
noncomputable def R_123_30 (v1 : Int32) (v2 : Int32) (v3 : Int32) (v4 : Int32) (h : Hp) : Option (Int32 × Hp) := bndI (S_11 v3 0 999 h) (R_123_42 v1 v2 v3 v4 999)
theorem r_123_30 {X : GX} {d : Nat} {r : Int32 × Hp} (hd : 2 ≤ d) (hq : RtX X (some (.int r.1)) r.2) {h : Hp} {v1 : Int32} {v2 : Int32} {v3 : Int32} {v4 : Int32} (e : R_123_30 v1 v2 v3 v4 h = some r) : G X d 123 30 [some (.ref 0), some (.int v1), some (.int v2), some (.int v3), some (.int v4), none] [] h := by
  unfold R_123_30 at e
  obtain ⟨x, h2, e1, e2⟩ := bndI_s e
  refine k_123_30 (by omega) (t_11 e1) ?_
  rintro _ _ ⟨rfl, rfl⟩
  exact r_123_42 hd hq e2
noncomputable def R_123_25 (v1 : Int32) (v2 : Int32) (v3 : Int32) (v4 : Int32) (h : Hp) : Option (Int32 × Hp) := bndI (S_11 v3 0 99 h) (R_123_42 v1 v2 v3 v4 99)
theorem r_123_25 {X : GX} {d : Nat} {r : Int32 × Hp} (hd : 2 ≤ d) (hq : RtX X (some (.int r.1)) r.2) {h : Hp} {v1 : Int32} {v2 : Int32} {v3 : Int32} {v4 : Int32} (e : R_123_25 v1 v2 v3 v4 h = some r) : G X d 123 25 [some (.ref 0), some (.int v1), some (.int v2), some (.int v3), some (.int v4), none] [] h := by
  unfold R_123_25 at e
  obtain ⟨x, h2, e1, e2⟩ := bndI_s e
  refine k_123_25 (by omega) (t_11 e1) ?_
  rintro _ _ ⟨rfl, rfl⟩
  exact r_123_42 hd hq e2
noncomputable def R_123_21 (v1 : Int32) (v2 : Int32) (v3 : Int32) (v4 : Int32) (h : Hp) : Option (Int32 × Hp) := if v2 = 0 then R_123_25 v1 v2 v3 v4 h else R_123_30 v1 v2 v3 v4 h
theorem r_123_21 {X : GX} {d : Nat} {r : Int32 × Hp} (hd : 2 ≤ d) (hq : RtX X (some (.int r.1)) r.2) {h : Hp} {v1 : Int32} {v2 : Int32} {v3 : Int32} {v4 : Int32} (e : R_123_21 v1 v2 v3 v4 h = some r) : G X d 123 21 [some (.ref 0), some (.int v1), some (.int v2), some (.int v3), some (.int v4), none] [] h := by
  unfold R_123_21 at e
  refine k_123_21 (fun c => ?_) (fun c => ?_)
  · rw [if_neg c] at e; exact r_123_30 hd hq e
  · rw [if_pos c] at e; exact r_123_25 hd hq e
noncomputable def R_123_16 (v1 : Int32) (v2 : Int32) (v3 : Int32) (v4 : Int32) (s0 : Int32) (h : Hp) : Option (Int32 × Hp) := if s0 = 0 then R_123_19 h else R_123_21 v1 v2 v3 v4 h
theorem r_123_16 {X : GX} {d : Nat} {r : Int32 × Hp} (hd : 2 ≤ d) (hq : RtX X (some (.int r.1)) r.2) {h : Hp} {v1 : Int32} {v2 : Int32} {v3 : Int32} {v4 : Int32} {s0 : Int32} (e : R_123_16 v1 v2 v3 v4 s0 h = some r) : G X d 123 16 [some (.ref 0), some (.int v1), some (.int v2), some (.int v3), some (.int v4), none] [.int s0] h := by
  unfold R_123_16 at e
  refine k_123_16 (fun c => ?_) (fun c => ?_)
  · rw [if_neg c] at e; exact r_123_21 hd hq e
  · rw [if_pos c] at e; exact r_123_19 hd hq e
noncomputable def R_123_10 (v1 : Int32) (v2 : Int32) (v3 : Int32) (v4 : Int32) (h : Hp) : Option (Int32 × Hp) := bndI (S_11 v2 0 1 h) (R_123_16 v1 v2 v3 v4)
theorem r_123_10 {X : GX} {d : Nat} {r : Int32 × Hp} (hd : 2 ≤ d) (hq : RtX X (some (.int r.1)) r.2) {h : Hp} {v1 : Int32} {v2 : Int32} {v3 : Int32} {v4 : Int32} (e : R_123_10 v1 v2 v3 v4 h = some r) : G X d 123 10 [some (.ref 0), some (.int v1), some (.int v2), some (.int v3), some (.int v4), none] [] h := by
  unfold R_123_10 at e
  obtain ⟨x, h2, e1, e2⟩ := bndI_s e
  refine k_123_10 (by omega) (t_11 e1) ?_
  rintro _ _ ⟨rfl, rfl⟩
  exact r_123_16 hd hq e2
noncomputable def R_123_7 (v1 : Int32) (v2 : Int32) (v3 : Int32) (v4 : Int32) (s0 : Int32) (h : Hp) : Option (Int32 × Hp) := if s0 = 0 then R_123_19 h else R_123_10 v1 v2 v3 v4 h
theorem r_123_7 {X : GX} {d : Nat} {r : Int32 × Hp} (hd : 2 ≤ d) (hq : RtX X (some (.int r.1)) r.2) {h : Hp} {v1 : Int32} {v2 : Int32} {v3 : Int32} {v4 : Int32} {s0 : Int32} (e : R_123_7 v1 v2 v3 v4 s0 h = some r) : G X d 123 7 [some (.ref 0), some (.int v1), some (.int v2), some (.int v3), some (.int v4), none] [.int s0] h := by
  unfold R_123_7 at e
  refine k_123_7 (fun c => ?_) (fun c => ?_)
  · rw [if_pos c] at e; exact r_123_19 hd hq e
  · rw [if_neg c] at e; exact r_123_10 hd hq e
noncomputable def R_123_0 (v1 : Int32) (v2 : Int32) (v3 : Int32) (v4 : Int32) (h : Hp) : Option (Int32 × Hp) := bndI (S_11 v1 0 15 h) (R_123_7 v1 v2 v3 v4)
theorem r_123_0 {X : GX} {d : Nat} {r : Int32 × Hp} (hd : 2 ≤ d) (hq : RtX X (some (.int r.1)) r.2) {h : Hp} {v1 : Int32} {v2 : Int32} {v3 : Int32} {v4 : Int32} (e : R_123_0 v1 v2 v3 v4 h = some r) : G X d 123 0 [some (.ref 0), some (.int v1), some (.int v2), some (.int v3), some (.int v4), none] [] h := by
  unfold R_123_0 at e
  obtain ⟨x, h2, e1, e2⟩ := bndI_s e
  refine k_123_0 (by omega) (t_11 e1) ?_
  rintro _ _ ⟨rfl, rfl⟩
  exact r_123_7 hd hq e2
noncomputable def S_123 (v1 : Int32) (v2 : Int32) (v3 : Int32) (v4 : Int32) (h : Hp) : Option (Int32 × Hp) := R_123_0 v1 v2 v3 v4 h
set_option maxRecDepth 100000 in
theorem t_123 {v1 : Int32} {v2 : Int32} {v3 : Int32} {v4 : Int32} {h : Hp} {r : Int32 × Hp} (e : S_123 v1 v2 v3 v4 h = some r) : CI 2 123 [.ref 0, .int v1, .int v2, .int v3, .int v4] h (fun x g => x = r.1 ∧ g = r.2) := by
  refine C.of mo_123 (Nat.le_of_ble_eq_true rfl) (fun X hq => ?_)
  exact r_123_0 (Nat.le_refl _) (hq _ _ ⟨_, rfl, rfl, rfl⟩) e
/-! 125 PlayedTruth.forget()I -/
noncomputable def R_125_0 (h : Hp) : Option (Int32 × Hp) := some ((h 16 4), (wr h 16 4 0))
theorem r_125_0 {X : GX} {d : Nat} {r : Int32 × Hp} (hd : 1 ≤ d) (hq : RtX X (some (.int r.1)) r.2) {h : Hp} (e : R_125_0 h = some r) : G X d 125 0 [some (.ref 0), none] [] h := by
  unfold R_125_0 at e
  rw [← Option.some.inj e] at hq
  exact k_125_0 hq
noncomputable def S_125 (h : Hp) : Option (Int32 × Hp) := R_125_0 h
set_option maxRecDepth 100000 in
theorem t_125 {h : Hp} {r : Int32 × Hp} (e : S_125 h = some r) : CI 1 125 [.ref 0] h (fun x g => x = r.1 ∧ g = r.2) := by
  refine C.of mo_125 (Nat.le_of_ble_eq_true rfl) (fun X hq => ?_)
  exact r_125_0 (Nat.le_refl _) (hq _ _ ⟨_, rfl, rfl, rfl⟩) e
/-! 128 PlayedTruth$Strangers.lastNight()I -/
noncomputable def R_128_29 (v1 : Int32) (h : Hp) : Option (Int32 × Hp) := some (v1, h)
theorem r_128_29 {X : GX} {d : Nat} {r : Int32 × Hp} (hd : 1 ≤ d) (hq : RtX X (some (.int r.1)) r.2) {h : Hp} {v1 : Int32} (e : R_128_29 v1 h = some r) : G X d 128 29 [none, some (.int v1), none] [] h := by
  unfold R_128_29 at e
  rw [← Option.some.inj e] at hq
  exact k_128_29 hq
noncomputable def R_128_12 (rec_4 : Int32 → Int32 → Hp → Option (Int32 × Hp)) (v1 : Int32) (v2 : Int32) (h : Hp) : Option (Int32 × Hp) := gd (IA 17 v2) (rec_4 (if v1 < (h 17 (Int32.toNatClampNeg v2)) then (h 17 (Int32.toNatClampNeg v2)) else v1) (v2 + 1) h)
theorem r_128_12 {X : GX} {d : Nat} {r : Int32 × Hp} (hd : 1 ≤ d) (hq : RtX X (some (.int r.1)) r.2) {rec_4 : Int32 → Int32 → Hp → Option (Int32 × Hp)} (hr_4 : ∀ {v1 : Int32} {v2 : Int32} {h : Hp}, rec_4 v1 v2 h = some r → G X d 128 4 [some (.ref 16), some (.int v1), some (.int v2)] [] h) {h : Hp} {v1 : Int32} {v2 : Int32} (e : R_128_12 rec_4 v1 v2 h = some r) : G X d 128 12 [some (.ref 16), some (.int v1), some (.int v2)] [] h := by
  unfold R_128_12 at e
  have g := gd_s e; clear e; obtain ⟨b0, e⟩ := g
  exact k_128_12 b0 (by omega) (hr_4 e)
noncomputable def R_128_4 (rec_4 : Int32 → Int32 → Hp → Option (Int32 × Hp)) (v1 : Int32) (v2 : Int32) (h : Hp) : Option (Int32 × Hp) := if (h 16 4) ≤ v2 then R_128_29 v1 h else R_128_12 rec_4 v1 v2 h
theorem r_128_4 {X : GX} {d : Nat} {r : Int32 × Hp} (hd : 1 ≤ d) (hq : RtX X (some (.int r.1)) r.2) {rec_4 : Int32 → Int32 → Hp → Option (Int32 × Hp)} (hr_4 : ∀ {v1 : Int32} {v2 : Int32} {h : Hp}, rec_4 v1 v2 h = some r → G X d 128 4 [some (.ref 16), some (.int v1), some (.int v2)] [] h) {h : Hp} {v1 : Int32} {v2 : Int32} (e : R_128_4 rec_4 v1 v2 h = some r) : G X d 128 4 [some (.ref 16), some (.int v1), some (.int v2)] [] h := by
  unfold R_128_4 at e
  refine k_128_4 (fun c => ?_) (fun c => ?_)
  · rw [if_pos c] at e; exact r_128_29 hd hq e
  · rw [if_neg c] at e; exact r_128_12 hd hq hr_4 e
noncomputable def H_128_4 : Nat → Int32 → Int32 → Hp → Option (Int32 × Hp)
  | 0, _, _, _ => none
  | n + 1, v1, v2, h => R_128_4 (H_128_4 n) v1 v2 h
theorem h_128_4 {X : GX} {d : Nat} {r : Int32 × Hp} (hd : 1 ≤ d) (hq : RtX X (some (.int r.1)) r.2) {n : Nat} {h : Hp} {v1 : Int32} {v2 : Int32} (e : H_128_4 n v1 v2 h = some r) : G X d 128 4 [some (.ref 16), some (.int v1), some (.int v2)] [] h := by
  induction n generalizing v1 v2 h with
  | zero => cases e
  | succ n ih => exact r_128_4 hd hq (fun e => ih e) e
noncomputable def R_128_0 (h : Hp) : Option (Int32 × Hp) := H_128_4 fuL ((-1)) 0 h
theorem r_128_0 {X : GX} {d : Nat} {r : Int32 × Hp} (hd : 1 ≤ d) (hq : RtX X (some (.int r.1)) r.2) {h : Hp} (e : R_128_0 h = some r) : G X d 128 0 [some (.ref 16), none, none] [] h := by
  unfold R_128_0 at e
  exact k_128_0 (h_128_4 hd hq e)
noncomputable def S_128 (h : Hp) : Option (Int32 × Hp) := R_128_0 h
set_option maxRecDepth 100000 in
theorem t_128 {h : Hp} {r : Int32 × Hp} (e : S_128 h = some r) : CI 1 128 [.ref 16] h (fun x g => x = r.1 ∧ g = r.2) := by
  refine C.of mo_128 (Nat.le_of_ble_eq_true rfl) (fun X hq => ?_)
  exact r_128_0 (Nat.le_refl _) (hq _ _ ⟨_, rfl, rfl, rfl⟩) e
/-! 130 PlayedTruth$Strangers.missedBehind(III)I -/
noncomputable def R_130_85 (v4 : Int32) (h : Hp) : Option (Int32 × Hp) := some (v4, h)
theorem r_130_85 {X : GX} {d : Nat} {r : Int32 × Hp} (hd : 1 ≤ d) (hq : RtX X (some (.int r.1)) r.2) {h : Hp} {v4 : Int32} (e : R_130_85 v4 h = some r) : G X d 130 85 [none, none, none, none, some (.int v4), none, none] [] h := by
  unfold R_130_85 at e
  rw [← Option.some.inj e] at hq
  exact k_130_85 hq
noncomputable def R_130_70 (rec_6 : Int32 → Int32 → Int32 → Int32 → Int32 → Hp → Option (Int32 × Hp)) (v1 : Int32) (v2 : Int32) (v3 : Int32) (v4 : Int32) (v5 : Int32) (h : Hp) : Option (Int32 × Hp) := rec_6 v1 v2 v3 (v4 ||| (1 <<< (v5 &&& 31))) (v5 + 1) h
theorem r_130_70 {X : GX} {d : Nat} {r : Int32 × Hp} (hd : 1 ≤ d) (hq : RtX X (some (.int r.1)) r.2) {rec_6 : Int32 → Int32 → Int32 → Int32 → Int32 → Hp → Option (Int32 × Hp)} (hr_6 : ∀ {v1 : Int32} {v2 : Int32} {v3 : Int32} {v4 : Int32} {v5 : Int32} {h : Hp}, rec_6 v1 v2 v3 v4 v5 h = some r → G X d 130 6 [some (.ref 16), some (.int v1), some (.int v2), some (.int v3), some (.int v4), some (.int v5), none] [] h) {h : Hp} {v1 : Int32} {v2 : Int32} {v3 : Int32} {v4 : Int32} {v5 : Int32} (e : R_130_70 rec_6 v1 v2 v3 v4 v5 h = some r) : G X d 130 70 [some (.ref 16), some (.int v1), some (.int v2), some (.int v3), some (.int v4), some (.int v5), none] [] h := by
  unfold R_130_70 at e
  exact k_130_70 (hr_6 e)
noncomputable def R_130_79 (rec_6 : Int32 → Int32 → Int32 → Int32 → Int32 → Hp → Option (Int32 × Hp)) (v1 : Int32) (v2 : Int32) (v3 : Int32) (v4 : Int32) (v5 : Int32) (h : Hp) : Option (Int32 × Hp) := rec_6 v1 v2 v3 v4 (v5 + 1) h
theorem r_130_79 {X : GX} {d : Nat} {r : Int32 × Hp} (hd : 1 ≤ d) (hq : RtX X (some (.int r.1)) r.2) {rec_6 : Int32 → Int32 → Int32 → Int32 → Int32 → Hp → Option (Int32 × Hp)} (hr_6 : ∀ {v1 : Int32} {v2 : Int32} {v3 : Int32} {v4 : Int32} {v5 : Int32} {h : Hp}, rec_6 v1 v2 v3 v4 v5 h = some r → G X d 130 6 [some (.ref 16), some (.int v1), some (.int v2), some (.int v3), some (.int v4), some (.int v5), none] [] h) {h : Hp} {v1 : Int32} {v2 : Int32} {v3 : Int32} {v4 : Int32} {v5 : Int32} (e : R_130_79 rec_6 v1 v2 v3 v4 v5 h = some r) : G X d 130 79 [some (.ref 16), some (.int v1), some (.int v2), some (.int v3), some (.int v4), some (.int v5), none] [] h := by
  unfold R_130_79 at e
  exact k_130_79 (hr_6 e)
noncomputable def R_130_58 (rec_6 : Int32 → Int32 → Int32 → Int32 → Int32 → Hp → Option (Int32 × Hp)) (v1 : Int32) (v2 : Int32) (v3 : Int32) (v4 : Int32) (v5 : Int32) (v6 : Int32) (h : Hp) : Option (Int32 × Hp) := gd (IA 20 v5) (if v6 ≤ (h 20 (Int32.toNatClampNeg v5)) then R_130_79 rec_6 v1 v2 v3 v4 v5 h else R_130_70 rec_6 v1 v2 v3 v4 v5 h)
theorem r_130_58 {X : GX} {d : Nat} {r : Int32 × Hp} (hd : 1 ≤ d) (hq : RtX X (some (.int r.1)) r.2) {rec_6 : Int32 → Int32 → Int32 → Int32 → Int32 → Hp → Option (Int32 × Hp)} (hr_6 : ∀ {v1 : Int32} {v2 : Int32} {v3 : Int32} {v4 : Int32} {v5 : Int32} {h : Hp}, rec_6 v1 v2 v3 v4 v5 h = some r → G X d 130 6 [some (.ref 16), some (.int v1), some (.int v2), some (.int v3), some (.int v4), some (.int v5), none] [] h) {h : Hp} {v1 : Int32} {v2 : Int32} {v3 : Int32} {v4 : Int32} {v5 : Int32} {v6 : Int32} (e : R_130_58 rec_6 v1 v2 v3 v4 v5 v6 h = some r) : G X d 130 58 [some (.ref 16), some (.int v1), some (.int v2), some (.int v3), some (.int v4), some (.int v5), some (.int v6)] [] h := by
  unfold R_130_58 at e
  have g := gd_s e; clear e; obtain ⟨b0, e⟩ := g
  refine k_130_58 b0 (fun c => ?_) (fun c => ?_)
  · rw [if_pos c] at e; exact r_130_79 hd hq hr_6 e
  · rw [if_neg c] at e; exact r_130_70 hd hq hr_6 e
noncomputable def R_130_43 (rec_6 : Int32 → Int32 → Int32 → Int32 → Int32 → Hp → Option (Int32 × Hp)) (v1 : Int32) (v2 : Int32) (v3 : Int32) (v4 : Int32) (v5 : Int32) (h : Hp) : Option (Int32 × Hp) := gd (IA 19 v5) (if v3 < (h 19 (Int32.toNatClampNeg v5)) then R_130_70 rec_6 v1 v2 v3 v4 v5 h else R_130_58 rec_6 v1 v2 v3 v4 v5 v3 h)
theorem r_130_43 {X : GX} {d : Nat} {r : Int32 × Hp} (hd : 1 ≤ d) (hq : RtX X (some (.int r.1)) r.2) {rec_6 : Int32 → Int32 → Int32 → Int32 → Int32 → Hp → Option (Int32 × Hp)} (hr_6 : ∀ {v1 : Int32} {v2 : Int32} {v3 : Int32} {v4 : Int32} {v5 : Int32} {h : Hp}, rec_6 v1 v2 v3 v4 v5 h = some r → G X d 130 6 [some (.ref 16), some (.int v1), some (.int v2), some (.int v3), some (.int v4), some (.int v5), none] [] h) {h : Hp} {v1 : Int32} {v2 : Int32} {v3 : Int32} {v4 : Int32} {v5 : Int32} (e : R_130_43 rec_6 v1 v2 v3 v4 v5 h = some r) : G X d 130 43 [some (.ref 16), some (.int v1), some (.int v2), some (.int v3), some (.int v4), some (.int v5), none] [] h := by
  unfold R_130_43 at e
  have g := gd_s e; clear e; obtain ⟨b0, e⟩ := g
  refine k_130_43 b0 (fun c => ?_) (fun c => ?_)
  · rw [if_pos c] at e; exact r_130_70 hd hq hr_6 e
  · rw [if_neg c] at e; exact r_130_58 hd hq hr_6 e
noncomputable def R_130_39 (rec_6 : Int32 → Int32 → Int32 → Int32 → Int32 → Hp → Option (Int32 × Hp)) (v1 : Int32) (v2 : Int32) (v3 : Int32) (v4 : Int32) (v5 : Int32) (h : Hp) : Option (Int32 × Hp) := gd (IA 19 v5) (if v2 < (h 19 (Int32.toNatClampNeg v5)) then R_130_70 rec_6 v1 v2 v3 v4 v5 h else R_130_58 rec_6 v1 v2 v3 v4 v5 v2 h)
theorem r_130_39 {X : GX} {d : Nat} {r : Int32 × Hp} (hd : 1 ≤ d) (hq : RtX X (some (.int r.1)) r.2) {rec_6 : Int32 → Int32 → Int32 → Int32 → Int32 → Hp → Option (Int32 × Hp)} (hr_6 : ∀ {v1 : Int32} {v2 : Int32} {v3 : Int32} {v4 : Int32} {v5 : Int32} {h : Hp}, rec_6 v1 v2 v3 v4 v5 h = some r → G X d 130 6 [some (.ref 16), some (.int v1), some (.int v2), some (.int v3), some (.int v4), some (.int v5), none] [] h) {h : Hp} {v1 : Int32} {v2 : Int32} {v3 : Int32} {v4 : Int32} {v5 : Int32} (e : R_130_39 rec_6 v1 v2 v3 v4 v5 h = some r) : G X d 130 39 [some (.ref 16), some (.int v1), some (.int v2), some (.int v3), some (.int v4), some (.int v5), none] [] h := by
  unfold R_130_39 at e
  have g := gd_s e; clear e; obtain ⟨b0, e⟩ := g
  refine k_130_39 b0 (fun c => ?_) (fun c => ?_)
  · rw [if_pos c] at e; exact r_130_70 hd hq hr_6 e
  · rw [if_neg c] at e; exact r_130_58 hd hq hr_6 e
noncomputable def R_130_29 (rec_6 : Int32 → Int32 → Int32 → Int32 → Int32 → Hp → Option (Int32 × Hp)) (v1 : Int32) (v2 : Int32) (v3 : Int32) (v4 : Int32) (v5 : Int32) (h : Hp) : Option (Int32 × Hp) := gd (IA 18 v5) (if (h 18 (Int32.toNatClampNeg v5)) = 0 then R_130_39 rec_6 v1 v2 v3 v4 v5 h else R_130_43 rec_6 v1 v2 v3 v4 v5 h)
theorem r_130_29 {X : GX} {d : Nat} {r : Int32 × Hp} (hd : 1 ≤ d) (hq : RtX X (some (.int r.1)) r.2) {rec_6 : Int32 → Int32 → Int32 → Int32 → Int32 → Hp → Option (Int32 × Hp)} (hr_6 : ∀ {v1 : Int32} {v2 : Int32} {v3 : Int32} {v4 : Int32} {v5 : Int32} {h : Hp}, rec_6 v1 v2 v3 v4 v5 h = some r → G X d 130 6 [some (.ref 16), some (.int v1), some (.int v2), some (.int v3), some (.int v4), some (.int v5), none] [] h) {h : Hp} {v1 : Int32} {v2 : Int32} {v3 : Int32} {v4 : Int32} {v5 : Int32} (e : R_130_29 rec_6 v1 v2 v3 v4 v5 h = some r) : G X d 130 29 [some (.ref 16), some (.int v1), some (.int v2), some (.int v3), some (.int v4), some (.int v5), none] [] h := by
  unfold R_130_29 at e
  have g := gd_s e; clear e; obtain ⟨b0, e⟩ := g
  refine k_130_29 b0 (fun c => ?_) (fun c => ?_)
  · rw [if_neg c] at e; exact r_130_43 hd hq hr_6 e
  · rw [if_pos c] at e; exact r_130_39 hd hq hr_6 e
noncomputable def R_130_26 (rec_6 : Int32 → Int32 → Int32 → Int32 → Int32 → Hp → Option (Int32 × Hp)) (v1 : Int32) (v2 : Int32) (v3 : Int32) (v4 : Int32) (v5 : Int32) (h : Hp) : Option (Int32 × Hp) := rec_6 v1 v2 v3 v4 (v5 + 1) h
theorem r_130_26 {X : GX} {d : Nat} {r : Int32 × Hp} (hd : 1 ≤ d) (hq : RtX X (some (.int r.1)) r.2) {rec_6 : Int32 → Int32 → Int32 → Int32 → Int32 → Hp → Option (Int32 × Hp)} (hr_6 : ∀ {v1 : Int32} {v2 : Int32} {v3 : Int32} {v4 : Int32} {v5 : Int32} {h : Hp}, rec_6 v1 v2 v3 v4 v5 h = some r → G X d 130 6 [some (.ref 16), some (.int v1), some (.int v2), some (.int v3), some (.int v4), some (.int v5), none] [] h) {h : Hp} {v1 : Int32} {v2 : Int32} {v3 : Int32} {v4 : Int32} {v5 : Int32} (e : R_130_26 rec_6 v1 v2 v3 v4 v5 h = some r) : G X d 130 26 [some (.ref 16), some (.int v1), some (.int v2), some (.int v3), some (.int v4), some (.int v5), none] [] h := by
  unfold R_130_26 at e
  exact k_130_26 (hr_6 e)
noncomputable def R_130_15 (rec_6 : Int32 → Int32 → Int32 → Int32 → Int32 → Hp → Option (Int32 × Hp)) (v1 : Int32) (v2 : Int32) (v3 : Int32) (v4 : Int32) (v5 : Int32) (h : Hp) : Option (Int32 × Hp) := gd (IA 17 v5) (if (h 17 (Int32.toNatClampNeg v5)) = v1 then R_130_29 rec_6 v1 v2 v3 v4 v5 h else R_130_26 rec_6 v1 v2 v3 v4 v5 h)
theorem r_130_15 {X : GX} {d : Nat} {r : Int32 × Hp} (hd : 1 ≤ d) (hq : RtX X (some (.int r.1)) r.2) {rec_6 : Int32 → Int32 → Int32 → Int32 → Int32 → Hp → Option (Int32 × Hp)} (hr_6 : ∀ {v1 : Int32} {v2 : Int32} {v3 : Int32} {v4 : Int32} {v5 : Int32} {h : Hp}, rec_6 v1 v2 v3 v4 v5 h = some r → G X d 130 6 [some (.ref 16), some (.int v1), some (.int v2), some (.int v3), some (.int v4), some (.int v5), none] [] h) {h : Hp} {v1 : Int32} {v2 : Int32} {v3 : Int32} {v4 : Int32} {v5 : Int32} (e : R_130_15 rec_6 v1 v2 v3 v4 v5 h = some r) : G X d 130 15 [some (.ref 16), some (.int v1), some (.int v2), some (.int v3), some (.int v4), some (.int v5), none] [] h := by
  unfold R_130_15 at e
  have g := gd_s e; clear e; obtain ⟨b0, e⟩ := g
  refine k_130_15 b0 (fun c => ?_) (fun c => ?_)
  · rw [if_pos c] at e; exact r_130_29 hd hq hr_6 e
  · rw [if_neg c] at e; exact r_130_26 hd hq hr_6 e
noncomputable def R_130_6 (rec_6 : Int32 → Int32 → Int32 → Int32 → Int32 → Hp → Option (Int32 × Hp)) (v1 : Int32) (v2 : Int32) (v3 : Int32) (v4 : Int32) (v5 : Int32) (h : Hp) : Option (Int32 × Hp) := if (h 16 4) ≤ v5 then R_130_85 v4 h else R_130_15 rec_6 v1 v2 v3 v4 v5 h
theorem r_130_6 {X : GX} {d : Nat} {r : Int32 × Hp} (hd : 1 ≤ d) (hq : RtX X (some (.int r.1)) r.2) {rec_6 : Int32 → Int32 → Int32 → Int32 → Int32 → Hp → Option (Int32 × Hp)} (hr_6 : ∀ {v1 : Int32} {v2 : Int32} {v3 : Int32} {v4 : Int32} {v5 : Int32} {h : Hp}, rec_6 v1 v2 v3 v4 v5 h = some r → G X d 130 6 [some (.ref 16), some (.int v1), some (.int v2), some (.int v3), some (.int v4), some (.int v5), none] [] h) {h : Hp} {v1 : Int32} {v2 : Int32} {v3 : Int32} {v4 : Int32} {v5 : Int32} (e : R_130_6 rec_6 v1 v2 v3 v4 v5 h = some r) : G X d 130 6 [some (.ref 16), some (.int v1), some (.int v2), some (.int v3), some (.int v4), some (.int v5), none] [] h := by
  unfold R_130_6 at e
  refine k_130_6 (fun c => ?_) (fun c => ?_)
  · rw [if_pos c] at e; exact r_130_85 hd hq e
  · rw [if_neg c] at e; exact r_130_15 hd hq hr_6 e
noncomputable def H_130_6 : Nat → Int32 → Int32 → Int32 → Int32 → Int32 → Hp → Option (Int32 × Hp)
  | 0, _, _, _, _, _, _ => none
  | n + 1, v1, v2, v3, v4, v5, h => R_130_6 (H_130_6 n) v1 v2 v3 v4 v5 h
theorem h_130_6 {X : GX} {d : Nat} {r : Int32 × Hp} (hd : 1 ≤ d) (hq : RtX X (some (.int r.1)) r.2) {n : Nat} {h : Hp} {v1 : Int32} {v2 : Int32} {v3 : Int32} {v4 : Int32} {v5 : Int32} (e : H_130_6 n v1 v2 v3 v4 v5 h = some r) : G X d 130 6 [some (.ref 16), some (.int v1), some (.int v2), some (.int v3), some (.int v4), some (.int v5), none] [] h := by
  induction n generalizing v1 v2 v3 v4 v5 h with
  | zero => cases e
  | succ n ih => exact r_130_6 hd hq (fun e => ih e) e
noncomputable def R_130_0 (v1 : Int32) (v2 : Int32) (v3 : Int32) (h : Hp) : Option (Int32 × Hp) := H_130_6 fuL v1 v2 v3 0 0 h
theorem r_130_0 {X : GX} {d : Nat} {r : Int32 × Hp} (hd : 1 ≤ d) (hq : RtX X (some (.int r.1)) r.2) {h : Hp} {v1 : Int32} {v2 : Int32} {v3 : Int32} (e : R_130_0 v1 v2 v3 h = some r) : G X d 130 0 [some (.ref 16), some (.int v1), some (.int v2), some (.int v3), none, none, none] [] h := by
  unfold R_130_0 at e
  exact k_130_0 (h_130_6 hd hq e)
noncomputable def S_130 (v1 : Int32) (v2 : Int32) (v3 : Int32) (h : Hp) : Option (Int32 × Hp) := R_130_0 v1 v2 v3 h
set_option maxRecDepth 100000 in
theorem t_130 {v1 : Int32} {v2 : Int32} {v3 : Int32} {h : Hp} {r : Int32 × Hp} (e : S_130 v1 v2 v3 h = some r) : CI 1 130 [.ref 16, .int v1, .int v2, .int v3] h (fun x g => x = r.1 ∧ g = r.2) := by
  refine C.of mo_130 (Nat.le_of_ble_eq_true rfl) (fun X hq => ?_)
  exact r_130_0 (Nat.le_refl _) (hq _ _ ⟨_, rfl, rfl, rfl⟩) e
/-! 129 PlayedTruth$Strangers.missedBy(LPlayedTruth$Stage;IIII)I -/
noncomputable def R_129_78 (v6 : Int32) (h : Hp) : Option (Int32 × Hp) := some (v6, h)
theorem r_129_78 {X : GX} {d : Nat} {r : Int32 × Hp} (hd : 2 ≤ d) (hq : RtX X (some (.int r.1)) r.2) {h : Hp} {v6 : Int32} (e : R_129_78 v6 h = some r) : G X d 129 78 [none, none, none, none, none, none, some (.int v6), none, none, none] [] h := by
  unfold R_129_78 at e
  rw [← Option.some.inj e] at hq
  exact k_129_78 hq
noncomputable def R_129_69 (rec_13 : Nat → Int32 → Int32 → Int32 → Int32 → Int32 → Int32 → Int32 → Hp → Option (Int32 × Hp)) (v1 : Nat) (v2 : Int32) (v3 : Int32) (v4 : Int32) (v6 : Int32) (v7 : Int32) (v9 : Int32) (s1 : Int32) (s0 : Int32) (h : Hp) : Option (Int32 × Hp) := rec_13 v1 v2 v3 v4 v6 v7 (s1 + s0) (v9 + 1) h
theorem r_129_69 {X : GX} {d : Nat} {r : Int32 × Hp} (hd : 2 ≤ d) (hq : RtX X (some (.int r.1)) r.2) {rec_13 : Nat → Int32 → Int32 → Int32 → Int32 → Int32 → Int32 → Int32 → Hp → Option (Int32 × Hp)} (hr_13 : ∀ {v1 : Nat} {v2 : Int32} {v3 : Int32} {v4 : Int32} {v6 : Int32} {v7 : Int32} {v8 : Int32} {v9 : Int32} {h : Hp}, rec_13 v1 v2 v3 v4 v6 v7 v8 v9 h = some r → G X d 129 13 [some (.ref 16), some (.ref v1), some (.int v2), some (.int v3), some (.int v4), none, some (.int v6), some (.int v7), some (.int v8), some (.int v9)] [] h) {h : Hp} {v1 : Nat} {v2 : Int32} {v3 : Int32} {v4 : Int32} {v6 : Int32} {v7 : Int32} {v9 : Int32} {s1 : Int32} {s0 : Int32} (e : R_129_69 rec_13 v1 v2 v3 v4 v6 v7 v9 s1 s0 h = some r) : G X d 129 69 [some (.ref 16), some (.ref v1), some (.int v2), some (.int v3), some (.int v4), none, some (.int v6), some (.int v7), none, some (.int v9)] [.int s0, .int s1] h := by
  unfold R_129_69 at e
  exact k_129_69 (hr_13 e)
noncomputable def R_129_52 (rec_13 : Nat → Int32 → Int32 → Int32 → Int32 → Int32 → Int32 → Int32 → Hp → Option (Int32 × Hp)) (v1 : Nat) (v2 : Int32) (v3 : Int32) (v4 : Int32) (v6 : Int32) (v8 : Int32) (v9 : Int32) (s1 : Int32) (s2 : Int32) (s0 : Int32) (h : Hp) : Option (Int32 × Hp) := bndI (S_22 v3 v4 (if (s1 + s0) < s2 then (s1 + s0) else s2) 0 h) (R_129_69 rec_13 v1 v2 v3 v4 v6 (if (s1 + s0) < s2 then (s1 + s0) else s2) v9 v8)
theorem r_129_52 {X : GX} {d : Nat} {r : Int32 × Hp} (hd : 2 ≤ d) (hq : RtX X (some (.int r.1)) r.2) {rec_13 : Nat → Int32 → Int32 → Int32 → Int32 → Int32 → Int32 → Int32 → Hp → Option (Int32 × Hp)} (hr_13 : ∀ {v1 : Nat} {v2 : Int32} {v3 : Int32} {v4 : Int32} {v6 : Int32} {v7 : Int32} {v8 : Int32} {v9 : Int32} {h : Hp}, rec_13 v1 v2 v3 v4 v6 v7 v8 v9 h = some r → G X d 129 13 [some (.ref 16), some (.ref v1), some (.int v2), some (.int v3), some (.int v4), none, some (.int v6), some (.int v7), some (.int v8), some (.int v9)] [] h) {h : Hp} {v1 : Nat} {v2 : Int32} {v3 : Int32} {v4 : Int32} {v6 : Int32} {v8 : Int32} {v9 : Int32} {s1 : Int32} {s2 : Int32} {s0 : Int32} (e : R_129_52 rec_13 v1 v2 v3 v4 v6 v8 v9 s1 s2 s0 h = some r) : G X d 129 52 [some (.ref 16), some (.ref v1), some (.int v2), some (.int v3), some (.int v4), none, some (.int v6), none, some (.int v8), some (.int v9)] [.int s0, .int s1, .int s2] h := by
  unfold R_129_52 at e
  obtain ⟨x, h2, e1, e2⟩ := bndI_s e
  refine k_129_52 (by omega) (by omega) (t_22 e1) ?_
  rintro _ _ ⟨rfl, rfl⟩
  exact r_129_69 hd hq hr_13 e2
noncomputable def R_129_45 (rec_13 : Nat → Int32 → Int32 → Int32 → Int32 → Int32 → Int32 → Int32 → Hp → Option (Int32 × Hp)) (v1 : Nat) (v2 : Int32) (v3 : Int32) (v4 : Int32) (v6 : Int32) (v7 : Int32) (v8 : Int32) (v9 : Int32) (s1 : Int32) (s2 : Int32) (s3 : Int32) (s0 : Int32) (h : Hp) : Option (Int32 × Hp) := bndI (S_18 s1 s0 v7 v9 h) (R_129_52 rec_13 v1 v2 v3 v4 v6 v8 v9 s2 s3)
theorem r_129_45 {X : GX} {d : Nat} {r : Int32 × Hp} (hd : 2 ≤ d) (hq : RtX X (some (.int r.1)) r.2) {rec_13 : Nat → Int32 → Int32 → Int32 → Int32 → Int32 → Int32 → Int32 → Hp → Option (Int32 × Hp)} (hr_13 : ∀ {v1 : Nat} {v2 : Int32} {v3 : Int32} {v4 : Int32} {v6 : Int32} {v7 : Int32} {v8 : Int32} {v9 : Int32} {h : Hp}, rec_13 v1 v2 v3 v4 v6 v7 v8 v9 h = some r → G X d 129 13 [some (.ref 16), some (.ref v1), some (.int v2), some (.int v3), some (.int v4), none, some (.int v6), some (.int v7), some (.int v8), some (.int v9)] [] h) {h : Hp} {v1 : Nat} {v2 : Int32} {v3 : Int32} {v4 : Int32} {v6 : Int32} {v7 : Int32} {v8 : Int32} {v9 : Int32} {s1 : Int32} {s2 : Int32} {s3 : Int32} {s0 : Int32} (e : R_129_45 rec_13 v1 v2 v3 v4 v6 v7 v8 v9 s1 s2 s3 s0 h = some r) : G X d 129 45 [some (.ref 16), some (.ref v1), some (.int v2), some (.int v3), some (.int v4), none, some (.int v6), some (.int v7), some (.int v8), some (.int v9)] [.int s0, .int s1, .int s2, .int s3] h := by
  unfold R_129_45 at e
  obtain ⟨x, h2, e1, e2⟩ := bndI_s e
  refine k_129_45 (by omega) (t_18 e1) ?_
  rintro _ _ ⟨rfl, rfl⟩
  exact r_129_52 hd hq hr_13 e2
noncomputable def R_129_31 (rec_13 : Nat → Int32 → Int32 → Int32 → Int32 → Int32 → Int32 → Int32 → Hp → Option (Int32 × Hp)) (v1 : Nat) (v2 : Int32) (v3 : Int32) (v4 : Int32) (v7 : Int32) (v8 : Int32) (v9 : Int32) (s1 : Int32) (s0 : Int32) (h : Hp) : Option (Int32 × Hp) := gd (sh v1 = (1, 6) ∧ v1 = 1) (bndI (S_17 v9 h) (R_129_45 rec_13 v1 v2 v3 v4 (s1 ||| s0) v7 v8 v9 v3 v7 99))
theorem r_129_31 {X : GX} {d : Nat} {r : Int32 × Hp} (hd : 2 ≤ d) (hq : RtX X (some (.int r.1)) r.2) {rec_13 : Nat → Int32 → Int32 → Int32 → Int32 → Int32 → Int32 → Int32 → Hp → Option (Int32 × Hp)} (hr_13 : ∀ {v1 : Nat} {v2 : Int32} {v3 : Int32} {v4 : Int32} {v6 : Int32} {v7 : Int32} {v8 : Int32} {v9 : Int32} {h : Hp}, rec_13 v1 v2 v3 v4 v6 v7 v8 v9 h = some r → G X d 129 13 [some (.ref 16), some (.ref v1), some (.int v2), some (.int v3), some (.int v4), none, some (.int v6), some (.int v7), some (.int v8), some (.int v9)] [] h) {h : Hp} {v1 : Nat} {v2 : Int32} {v3 : Int32} {v4 : Int32} {v7 : Int32} {v8 : Int32} {v9 : Int32} {s1 : Int32} {s0 : Int32} (e : R_129_31 rec_13 v1 v2 v3 v4 v7 v8 v9 s1 s0 h = some r) : G X d 129 31 [some (.ref 16), some (.ref v1), some (.int v2), some (.int v3), some (.int v4), none, none, some (.int v7), some (.int v8), some (.int v9)] [.int s0, .int s1] h := by
  unfold R_129_31 at e
  have g := gd_s e; clear e; obtain ⟨⟨o0, q0⟩, e⟩ := g
  subst q0
  obtain ⟨x, h2, e1, e2⟩ := bndI_s e
  refine k_129_31 o0 (by omega) (t_17 e1) ?_
  rintro _ _ ⟨rfl, rfl⟩
  exact r_129_45 hd hq hr_13 e2
noncomputable def R_129_19 (rec_13 : Nat → Int32 → Int32 → Int32 → Int32 → Int32 → Int32 → Int32 → Hp → Option (Int32 × Hp)) (v1 : Nat) (v2 : Int32) (v3 : Int32) (v4 : Int32) (v6 : Int32) (v7 : Int32) (v8 : Int32) (v9 : Int32) (h : Hp) : Option (Int32 × Hp) := bndI (S_130 v9 v7 v8 h) (R_129_31 rec_13 v1 v2 v3 v4 v7 v8 v9 v6)
theorem r_129_19 {X : GX} {d : Nat} {r : Int32 × Hp} (hd : 2 ≤ d) (hq : RtX X (some (.int r.1)) r.2) {rec_13 : Nat → Int32 → Int32 → Int32 → Int32 → Int32 → Int32 → Int32 → Hp → Option (Int32 × Hp)} (hr_13 : ∀ {v1 : Nat} {v2 : Int32} {v3 : Int32} {v4 : Int32} {v6 : Int32} {v7 : Int32} {v8 : Int32} {v9 : Int32} {h : Hp}, rec_13 v1 v2 v3 v4 v6 v7 v8 v9 h = some r → G X d 129 13 [some (.ref 16), some (.ref v1), some (.int v2), some (.int v3), some (.int v4), none, some (.int v6), some (.int v7), some (.int v8), some (.int v9)] [] h) {h : Hp} {v1 : Nat} {v2 : Int32} {v3 : Int32} {v4 : Int32} {v6 : Int32} {v7 : Int32} {v8 : Int32} {v9 : Int32} (e : R_129_19 rec_13 v1 v2 v3 v4 v6 v7 v8 v9 h = some r) : G X d 129 19 [some (.ref 16), some (.ref v1), some (.int v2), some (.int v3), some (.int v4), none, some (.int v6), some (.int v7), some (.int v8), some (.int v9)] [] h := by
  unfold R_129_19 at e
  obtain ⟨x, h2, e1, e2⟩ := bndI_s e
  refine k_129_19 (by omega) (t_130 e1) ?_
  rintro _ _ ⟨rfl, rfl⟩
  exact r_129_31 hd hq hr_13 e2
noncomputable def R_129_13 (rec_13 : Nat → Int32 → Int32 → Int32 → Int32 → Int32 → Int32 → Int32 → Hp → Option (Int32 × Hp)) (v1 : Nat) (v2 : Int32) (v3 : Int32) (v4 : Int32) (v6 : Int32) (v7 : Int32) (v8 : Int32) (v9 : Int32) (h : Hp) : Option (Int32 × Hp) := if v2 < v9 then R_129_78 v6 h else R_129_19 rec_13 v1 v2 v3 v4 v6 v7 v8 v9 h
theorem r_129_13 {X : GX} {d : Nat} {r : Int32 × Hp} (hd : 2 ≤ d) (hq : RtX X (some (.int r.1)) r.2) {rec_13 : Nat → Int32 → Int32 → Int32 → Int32 → Int32 → Int32 → Int32 → Hp → Option (Int32 × Hp)} (hr_13 : ∀ {v1 : Nat} {v2 : Int32} {v3 : Int32} {v4 : Int32} {v6 : Int32} {v7 : Int32} {v8 : Int32} {v9 : Int32} {h : Hp}, rec_13 v1 v2 v3 v4 v6 v7 v8 v9 h = some r → G X d 129 13 [some (.ref 16), some (.ref v1), some (.int v2), some (.int v3), some (.int v4), none, some (.int v6), some (.int v7), some (.int v8), some (.int v9)] [] h) {h : Hp} {v1 : Nat} {v2 : Int32} {v3 : Int32} {v4 : Int32} {v6 : Int32} {v7 : Int32} {v8 : Int32} {v9 : Int32} (e : R_129_13 rec_13 v1 v2 v3 v4 v6 v7 v8 v9 h = some r) : G X d 129 13 [some (.ref 16), some (.ref v1), some (.int v2), some (.int v3), some (.int v4), none, some (.int v6), some (.int v7), some (.int v8), some (.int v9)] [] h := by
  unfold R_129_13 at e
  refine k_129_13 (fun c => ?_) (fun c => ?_)
  · rw [if_pos c] at e; exact r_129_78 hd hq e
  · rw [if_neg c] at e; exact r_129_19 hd hq hr_13 e
noncomputable def H_129_13 : Nat → Nat → Int32 → Int32 → Int32 → Int32 → Int32 → Int32 → Int32 → Hp → Option (Int32 × Hp)
  | 0, _, _, _, _, _, _, _, _, _ => none
  | n + 1, v1, v2, v3, v4, v6, v7, v8, v9, h => R_129_13 (H_129_13 n) v1 v2 v3 v4 v6 v7 v8 v9 h
theorem h_129_13 {X : GX} {d : Nat} {r : Int32 × Hp} (hd : 2 ≤ d) (hq : RtX X (some (.int r.1)) r.2) {n : Nat} {h : Hp} {v1 : Nat} {v2 : Int32} {v3 : Int32} {v4 : Int32} {v6 : Int32} {v7 : Int32} {v8 : Int32} {v9 : Int32} (e : H_129_13 n v1 v2 v3 v4 v6 v7 v8 v9 h = some r) : G X d 129 13 [some (.ref 16), some (.ref v1), some (.int v2), some (.int v3), some (.int v4), none, some (.int v6), some (.int v7), some (.int v8), some (.int v9)] [] h := by
  induction n generalizing v1 v2 v3 v4 v6 v7 v8 v9 h with
  | zero => cases e
  | succ n ih => exact r_129_13 hd hq (fun e => ih e) e
noncomputable def R_129_0 (v1 : Nat) (v2 : Int32) (v3 : Int32) (v4 : Int32) (v5 : Int32) (h : Hp) : Option (Int32 × Hp) := H_129_13 fuL v1 v2 v3 v4 0 v5 0 0 h
theorem r_129_0 {X : GX} {d : Nat} {r : Int32 × Hp} (hd : 2 ≤ d) (hq : RtX X (some (.int r.1)) r.2) {h : Hp} {v1 : Nat} {v2 : Int32} {v3 : Int32} {v4 : Int32} {v5 : Int32} (e : R_129_0 v1 v2 v3 v4 v5 h = some r) : G X d 129 0 [some (.ref 16), some (.ref v1), some (.int v2), some (.int v3), some (.int v4), some (.int v5), none, none, none, none] [] h := by
  unfold R_129_0 at e
  exact k_129_0 (h_129_13 hd hq e)
noncomputable def S_129 (v1 : Nat) (v2 : Int32) (v3 : Int32) (v4 : Int32) (v5 : Int32) (h : Hp) : Option (Int32 × Hp) := R_129_0 v1 v2 v3 v4 v5 h
set_option maxRecDepth 100000 in
theorem t_129 {v1 : Nat} {v2 : Int32} {v3 : Int32} {v4 : Int32} {v5 : Int32} {h : Hp} {r : Int32 × Hp} (e : S_129 v1 v2 v3 v4 v5 h = some r) : CI 2 129 [.ref 16, .ref v1, .int v2, .int v3, .int v4, .int v5] h (fun x g => x = r.1 ∧ g = r.2) := by
  refine C.of mo_129 (Nat.le_of_ble_eq_true rfl) (fun X hq => ?_)
  exact r_129_0 (Nat.le_refl _) (hq _ _ ⟨_, rfl, rfl, rfl⟩) e
