/-! part 41.b: by program (wip/whole/sem.py) -/
/-! 48 PlayedTruth$RuleReader.isLetter(I)Z -/
noncomputable def R_48_16 (h : Hp) : Option (Int32 × Hp) := some (0, h)
theorem r_48_16 {X : GX} {d : Nat} {r : Int32 × Hp} (hd : 1 ≤ d) (hq : RtX X (some (.int r.1)) r.2) {h : Hp} (e : R_48_16 h = some r) : G X d 48 16 [none] [] h := by
  unfold R_48_16 at e
  rw [← Option.some.inj e] at hq
  exact k_48_16 hq
noncomputable def R_48_12 (h : Hp) : Option (Int32 × Hp) := some (1, h)
theorem r_48_12 {X : GX} {d : Nat} {r : Int32 × Hp} (hd : 1 ≤ d) (hq : RtX X (some (.int r.1)) r.2) {h : Hp} (e : R_48_12 h = some r) : G X d 48 12 [none] [] h := by
  unfold R_48_12 at e
  rw [← Option.some.inj e] at hq
  exact k_48_12 hq
noncomputable def R_48_6 (v0 : Int32) (h : Hp) : Option (Int32 × Hp) := if 122 < v0 then R_48_16 h else R_48_12 h
theorem r_48_6 {X : GX} {d : Nat} {r : Int32 × Hp} (hd : 1 ≤ d) (hq : RtX X (some (.int r.1)) r.2) {h : Hp} {v0 : Int32} (e : R_48_6 v0 h = some r) : G X d 48 6 [some (.int v0)] [] h := by
  unfold R_48_6 at e
  refine k_48_6 (fun c => ?_) (fun c => ?_)
  · rw [if_pos c] at e; exact r_48_16 hd hq e
  · rw [if_neg c] at e; exact r_48_12 hd hq e
noncomputable def R_48_0 (v0 : Int32) (h : Hp) : Option (Int32 × Hp) := if v0 < 97 then R_48_16 h else R_48_6 v0 h
theorem r_48_0 {X : GX} {d : Nat} {r : Int32 × Hp} (hd : 1 ≤ d) (hq : RtX X (some (.int r.1)) r.2) {h : Hp} {v0 : Int32} (e : R_48_0 v0 h = some r) : G X d 48 0 [some (.int v0)] [] h := by
  unfold R_48_0 at e
  refine k_48_0 (fun c => ?_) (fun c => ?_)
  · rw [if_pos c] at e; exact r_48_16 hd hq e
  · rw [if_neg c] at e; exact r_48_6 hd hq e
noncomputable def S_48 (v0 : Int32) (h : Hp) : Option (Int32 × Hp) := R_48_0 v0 h
set_option maxRecDepth 100000 in
theorem t_48 {v0 : Int32} {h : Hp} {r : Int32 × Hp} (e : S_48 v0 h = some r) : CI 1 48 [.int v0] h (fun x g => x = r.1 ∧ g = r.2) := by
  refine C.of mo_48 (Nat.le_of_ble_eq_true rfl) (fun X hq => ?_)
  exact r_48_0 (Nat.le_refl _) (hq _ _ ⟨_, rfl, rfl, rfl⟩) e
/-! 49 PlayedTruth$RuleReader.isDigit(I)Z -/
noncomputable def R_49_16 (h : Hp) : Option (Int32 × Hp) := some (0, h)
theorem r_49_16 {X : GX} {d : Nat} {r : Int32 × Hp} (hd : 1 ≤ d) (hq : RtX X (some (.int r.1)) r.2) {h : Hp} (e : R_49_16 h = some r) : G X d 49 16 [none] [] h := by
  unfold R_49_16 at e
  rw [← Option.some.inj e] at hq
  exact k_49_16 hq
noncomputable def R_49_12 (h : Hp) : Option (Int32 × Hp) := some (1, h)
theorem r_49_12 {X : GX} {d : Nat} {r : Int32 × Hp} (hd : 1 ≤ d) (hq : RtX X (some (.int r.1)) r.2) {h : Hp} (e : R_49_12 h = some r) : G X d 49 12 [none] [] h := by
  unfold R_49_12 at e
  rw [← Option.some.inj e] at hq
  exact k_49_12 hq
noncomputable def R_49_6 (v0 : Int32) (h : Hp) : Option (Int32 × Hp) := if 57 < v0 then R_49_16 h else R_49_12 h
theorem r_49_6 {X : GX} {d : Nat} {r : Int32 × Hp} (hd : 1 ≤ d) (hq : RtX X (some (.int r.1)) r.2) {h : Hp} {v0 : Int32} (e : R_49_6 v0 h = some r) : G X d 49 6 [some (.int v0)] [] h := by
  unfold R_49_6 at e
  refine k_49_6 (fun c => ?_) (fun c => ?_)
  · rw [if_pos c] at e; exact r_49_16 hd hq e
  · rw [if_neg c] at e; exact r_49_12 hd hq e
noncomputable def R_49_0 (v0 : Int32) (h : Hp) : Option (Int32 × Hp) := if v0 < 48 then R_49_16 h else R_49_6 v0 h
theorem r_49_0 {X : GX} {d : Nat} {r : Int32 × Hp} (hd : 1 ≤ d) (hq : RtX X (some (.int r.1)) r.2) {h : Hp} {v0 : Int32} (e : R_49_0 v0 h = some r) : G X d 49 0 [some (.int v0)] [] h := by
  unfold R_49_0 at e
  refine k_49_0 (fun c => ?_) (fun c => ?_)
  · rw [if_pos c] at e; exact r_49_16 hd hq e
  · rw [if_neg c] at e; exact r_49_6 hd hq e
noncomputable def S_49 (v0 : Int32) (h : Hp) : Option (Int32 × Hp) := R_49_0 v0 h
set_option maxRecDepth 100000 in
theorem t_49 {v0 : Int32} {h : Hp} {r : Int32 × Hp} (e : S_49 v0 h = some r) : CI 1 49 [.int v0] h (fun x g => x = r.1 ∧ g = r.2) := by
  refine C.of mo_49 (Nat.le_of_ble_eq_true rfl) (fun X hq => ?_)
  exact r_49_0 (Nat.le_refl _) (hq _ _ ⟨_, rfl, rfl, rfl⟩) e
/-! 47 PlayedTruth$RuleReader.endOfToken(I)I -/
noncomputable def R_47_80 (v2 : Int32) (h : Hp) : Option (Int32 × Hp) := some (v2, h)
theorem r_47_80 {X : GX} {d : Nat} {r : Int32 × Hp} (hd : 2 ≤ d) (hq : RtX X (some (.int r.1)) r.2) {h : Hp} {v2 : Int32} (e : R_47_80 v2 h = some r) : G X d 47 80 [none, none, some (.int v2)] [] h := by
  unfold R_47_80 at e
  rw [← Option.some.inj e] at hq
  exact k_47_80 hq
noncomputable def R_47_74 (rec_54 : Int32 → Hp → Option (Int32 × Hp)) (v2 : Int32) (h : Hp) : Option (Int32 × Hp) := rec_54 (v2 + 1) h
theorem r_47_74 {X : GX} {d : Nat} {r : Int32 × Hp} (hd : 2 ≤ d) (hq : RtX X (some (.int r.1)) r.2) {rec_54 : Int32 → Hp → Option (Int32 × Hp)} (hr_54 : ∀ {v2 : Int32} {h : Hp}, rec_54 v2 h = some r → G X d 47 54 [some (.ref 21), none, some (.int v2)] [] h) {h : Hp} {v2 : Int32} (e : R_47_74 rec_54 v2 h = some r) : G X d 47 74 [some (.ref 21), none, some (.int v2)] [] h := by
  unfold R_47_74 at e
  exact k_47_74 (hr_54 e)
noncomputable def R_47_71 (rec_54 : Int32 → Hp → Option (Int32 × Hp)) (v2 : Int32) (s0 : Int32) (h : Hp) : Option (Int32 × Hp) := if s0 = 0 then R_47_80 v2 h else R_47_74 rec_54 v2 h
theorem r_47_71 {X : GX} {d : Nat} {r : Int32 × Hp} (hd : 2 ≤ d) (hq : RtX X (some (.int r.1)) r.2) {rec_54 : Int32 → Hp → Option (Int32 × Hp)} (hr_54 : ∀ {v2 : Int32} {h : Hp}, rec_54 v2 h = some r → G X d 47 54 [some (.ref 21), none, some (.int v2)] [] h) {h : Hp} {v2 : Int32} {s0 : Int32} (e : R_47_71 rec_54 v2 s0 h = some r) : G X d 47 71 [some (.ref 21), none, some (.int v2)] [.int s0] h := by
  unfold R_47_71 at e
  refine k_47_71 (fun c => ?_) (fun c => ?_)
  · rw [if_pos c] at e; exact r_47_80 hd hq e
  · rw [if_neg c] at e; exact r_47_74 hd hq hr_54 e
noncomputable def R_47_62 (rec_54 : Int32 → Hp → Option (Int32 × Hp)) (v2 : Int32) (h : Hp) : Option (Int32 × Hp) := gd (IA 22 v2) (bndI (S_49 (h 22 (Int32.toNatClampNeg v2)) h) (R_47_71 rec_54 v2))
theorem r_47_62 {X : GX} {d : Nat} {r : Int32 × Hp} (hd : 2 ≤ d) (hq : RtX X (some (.int r.1)) r.2) {rec_54 : Int32 → Hp → Option (Int32 × Hp)} (hr_54 : ∀ {v2 : Int32} {h : Hp}, rec_54 v2 h = some r → G X d 47 54 [some (.ref 21), none, some (.int v2)] [] h) {h : Hp} {v2 : Int32} (e : R_47_62 rec_54 v2 h = some r) : G X d 47 62 [some (.ref 21), none, some (.int v2)] [] h := by
  unfold R_47_62 at e
  have g := gd_s e; clear e; obtain ⟨b0, e⟩ := g
  obtain ⟨x, h2, e1, e2⟩ := bndI_s e
  refine k_47_62 b0 (by omega) (t_49 e1) ?_
  rintro _ _ ⟨rfl, rfl⟩
  exact r_47_71 hd hq hr_54 e2
noncomputable def R_47_54 (rec_54 : Int32 → Hp → Option (Int32 × Hp)) (v2 : Int32) (h : Hp) : Option (Int32 × Hp) := if (h 21 1) ≤ v2 then R_47_80 v2 h else R_47_62 rec_54 v2 h
theorem r_47_54 {X : GX} {d : Nat} {r : Int32 × Hp} (hd : 2 ≤ d) (hq : RtX X (some (.int r.1)) r.2) {rec_54 : Int32 → Hp → Option (Int32 × Hp)} (hr_54 : ∀ {v2 : Int32} {h : Hp}, rec_54 v2 h = some r → G X d 47 54 [some (.ref 21), none, some (.int v2)] [] h) {h : Hp} {v2 : Int32} (e : R_47_54 rec_54 v2 h = some r) : G X d 47 54 [some (.ref 21), none, some (.int v2)] [] h := by
  unfold R_47_54 at e
  refine k_47_54 (fun c => ?_) (fun c => ?_)
  · rw [if_pos c] at e; exact r_47_80 hd hq e
  · rw [if_neg c] at e; exact r_47_62 hd hq hr_54 e
noncomputable def H_47_54 : Nat → Int32 → Hp → Option (Int32 × Hp)
  | 0, _, _ => none
  | n + 1, v2, h => R_47_54 (H_47_54 n) v2 h
theorem h_47_54 {X : GX} {d : Nat} {r : Int32 × Hp} (hd : 2 ≤ d) (hq : RtX X (some (.int r.1)) r.2) {n : Nat} {h : Hp} {v2 : Int32} (e : H_47_54 n v2 h = some r) : G X d 47 54 [some (.ref 21), none, some (.int v2)] [] h := by
  induction n generalizing v2 h with
  | zero => cases e
  | succ n ih => exact r_47_54 hd hq (fun e => ih e) e
noncomputable def R_47_51 (v2 : Int32) (s0 : Int32) (h : Hp) : Option (Int32 × Hp) := if s0 = 0 then R_47_80 v2 h else H_47_54 fuL v2 h
theorem r_47_51 {X : GX} {d : Nat} {r : Int32 × Hp} (hd : 2 ≤ d) (hq : RtX X (some (.int r.1)) r.2) {h : Hp} {v2 : Int32} {s0 : Int32} (e : R_47_51 v2 s0 h = some r) : G X d 47 51 [some (.ref 21), none, some (.int v2)] [.int s0] h := by
  unfold R_47_51 at e
  refine k_47_51 (fun c => ?_) (fun c => ?_)
  · rw [if_pos c] at e; exact r_47_80 hd hq e
  · rw [if_neg c] at e; exact h_47_54 hd hq e
noncomputable def R_47_42 (v1 : Int32) (v2 : Int32) (h : Hp) : Option (Int32 × Hp) := gd (IA 22 v1) (bndI (S_49 (h 22 (Int32.toNatClampNeg v1)) h) (R_47_51 v2))
theorem r_47_42 {X : GX} {d : Nat} {r : Int32 × Hp} (hd : 2 ≤ d) (hq : RtX X (some (.int r.1)) r.2) {h : Hp} {v1 : Int32} {v2 : Int32} (e : R_47_42 v1 v2 h = some r) : G X d 47 42 [some (.ref 21), some (.int v1), some (.int v2)] [] h := by
  unfold R_47_42 at e
  have g := gd_s e; clear e; obtain ⟨b0, e⟩ := g
  obtain ⟨x, h2, e1, e2⟩ := bndI_s e
  refine k_47_42 b0 (by omega) (t_49 e1) ?_
  rintro _ _ ⟨rfl, rfl⟩
  exact r_47_51 hd hq e2
noncomputable def R_47_36 (rec_16 : Int32 → Hp → Option (Int32 × Hp)) (v2 : Int32) (h : Hp) : Option (Int32 × Hp) := rec_16 (v2 + 1) h
theorem r_47_36 {X : GX} {d : Nat} {r : Int32 × Hp} (hd : 2 ≤ d) (hq : RtX X (some (.int r.1)) r.2) {rec_16 : Int32 → Hp → Option (Int32 × Hp)} (hr_16 : ∀ {v2 : Int32} {h : Hp}, rec_16 v2 h = some r → G X d 47 16 [some (.ref 21), none, some (.int v2)] [] h) {h : Hp} {v2 : Int32} (e : R_47_36 rec_16 v2 h = some r) : G X d 47 36 [some (.ref 21), none, some (.int v2)] [] h := by
  unfold R_47_36 at e
  exact k_47_36 (hr_16 e)
noncomputable def R_47_33 (rec_16 : Int32 → Hp → Option (Int32 × Hp)) (v2 : Int32) (s0 : Int32) (h : Hp) : Option (Int32 × Hp) := if s0 = 0 then R_47_80 v2 h else R_47_36 rec_16 v2 h
theorem r_47_33 {X : GX} {d : Nat} {r : Int32 × Hp} (hd : 2 ≤ d) (hq : RtX X (some (.int r.1)) r.2) {rec_16 : Int32 → Hp → Option (Int32 × Hp)} (hr_16 : ∀ {v2 : Int32} {h : Hp}, rec_16 v2 h = some r → G X d 47 16 [some (.ref 21), none, some (.int v2)] [] h) {h : Hp} {v2 : Int32} {s0 : Int32} (e : R_47_33 rec_16 v2 s0 h = some r) : G X d 47 33 [some (.ref 21), none, some (.int v2)] [.int s0] h := by
  unfold R_47_33 at e
  refine k_47_33 (fun c => ?_) (fun c => ?_)
  · rw [if_pos c] at e; exact r_47_80 hd hq e
  · rw [if_neg c] at e; exact r_47_36 hd hq hr_16 e
noncomputable def R_47_24 (rec_16 : Int32 → Hp → Option (Int32 × Hp)) (v2 : Int32) (h : Hp) : Option (Int32 × Hp) := gd (IA 22 v2) (bndI (S_48 (h 22 (Int32.toNatClampNeg v2)) h) (R_47_33 rec_16 v2))
theorem r_47_24 {X : GX} {d : Nat} {r : Int32 × Hp} (hd : 2 ≤ d) (hq : RtX X (some (.int r.1)) r.2) {rec_16 : Int32 → Hp → Option (Int32 × Hp)} (hr_16 : ∀ {v2 : Int32} {h : Hp}, rec_16 v2 h = some r → G X d 47 16 [some (.ref 21), none, some (.int v2)] [] h) {h : Hp} {v2 : Int32} (e : R_47_24 rec_16 v2 h = some r) : G X d 47 24 [some (.ref 21), none, some (.int v2)] [] h := by
  unfold R_47_24 at e
  have g := gd_s e; clear e; obtain ⟨b0, e⟩ := g
  obtain ⟨x, h2, e1, e2⟩ := bndI_s e
  refine k_47_24 b0 (by omega) (t_48 e1) ?_
  rintro _ _ ⟨rfl, rfl⟩
  exact r_47_33 hd hq hr_16 e2
noncomputable def R_47_16 (rec_16 : Int32 → Hp → Option (Int32 × Hp)) (v2 : Int32) (h : Hp) : Option (Int32 × Hp) := if (h 21 1) ≤ v2 then R_47_80 v2 h else R_47_24 rec_16 v2 h
theorem r_47_16 {X : GX} {d : Nat} {r : Int32 × Hp} (hd : 2 ≤ d) (hq : RtX X (some (.int r.1)) r.2) {rec_16 : Int32 → Hp → Option (Int32 × Hp)} (hr_16 : ∀ {v2 : Int32} {h : Hp}, rec_16 v2 h = some r → G X d 47 16 [some (.ref 21), none, some (.int v2)] [] h) {h : Hp} {v2 : Int32} (e : R_47_16 rec_16 v2 h = some r) : G X d 47 16 [some (.ref 21), none, some (.int v2)] [] h := by
  unfold R_47_16 at e
  refine k_47_16 (fun c => ?_) (fun c => ?_)
  · rw [if_pos c] at e; exact r_47_80 hd hq e
  · rw [if_neg c] at e; exact r_47_24 hd hq hr_16 e
noncomputable def H_47_16 : Nat → Int32 → Hp → Option (Int32 × Hp)
  | 0, _, _ => none
  | n + 1, v2, h => R_47_16 (H_47_16 n) v2 h
theorem h_47_16 {X : GX} {d : Nat} {r : Int32 × Hp} (hd : 2 ≤ d) (hq : RtX X (some (.int r.1)) r.2) {n : Nat} {h : Hp} {v2 : Int32} (e : H_47_16 n v2 h = some r) : G X d 47 16 [some (.ref 21), none, some (.int v2)] [] h := by
  induction n generalizing v2 h with
  | zero => cases e
  | succ n ih => exact r_47_16 hd hq (fun e => ih e) e
noncomputable def R_47_13 (v1 : Int32) (v2 : Int32) (s0 : Int32) (h : Hp) : Option (Int32 × Hp) := if s0 = 0 then R_47_42 v1 v2 h else H_47_16 fuL v2 h
theorem r_47_13 {X : GX} {d : Nat} {r : Int32 × Hp} (hd : 2 ≤ d) (hq : RtX X (some (.int r.1)) r.2) {h : Hp} {v1 : Int32} {v2 : Int32} {s0 : Int32} (e : R_47_13 v1 v2 s0 h = some r) : G X d 47 13 [some (.ref 21), some (.int v1), some (.int v2)] [.int s0] h := by
  unfold R_47_13 at e
  refine k_47_13 (fun c => ?_) (fun c => ?_)
  · rw [if_pos c] at e; exact r_47_42 hd hq e
  · rw [if_neg c] at e; exact h_47_16 hd hq e
noncomputable def R_47_0 (v1 : Int32) (h : Hp) : Option (Int32 × Hp) := gd (IA 22 v1) (bndI (S_48 (h 22 (Int32.toNatClampNeg v1)) h) (R_47_13 v1 (v1 + 1)))
theorem r_47_0 {X : GX} {d : Nat} {r : Int32 × Hp} (hd : 2 ≤ d) (hq : RtX X (some (.int r.1)) r.2) {h : Hp} {v1 : Int32} (e : R_47_0 v1 h = some r) : G X d 47 0 [some (.ref 21), some (.int v1), none] [] h := by
  unfold R_47_0 at e
  have g := gd_s e; clear e; obtain ⟨b0, e⟩ := g
  obtain ⟨x, h2, e1, e2⟩ := bndI_s e
  refine k_47_0 b0 (by omega) (t_48 e1) ?_
  rintro _ _ ⟨rfl, rfl⟩
  exact r_47_13 hd hq e2
noncomputable def S_47 (v1 : Int32) (h : Hp) : Option (Int32 × Hp) := R_47_0 v1 h
set_option maxRecDepth 100000 in
theorem t_47 {v1 : Int32} {h : Hp} {r : Int32 × Hp} (e : S_47 v1 h = some r) : CI 2 47 [.ref 21, .int v1] h (fun x g => x = r.1 ∧ g = r.2) := by
  refine C.of mo_47 (Nat.le_of_ble_eq_true rfl) (fun X hq => ?_)
  exact r_47_0 (Nat.le_refl _) (hq _ _ ⟨_, rfl, rfl, rfl⟩) e
/-! 50 PlayedTruth$RuleReader.tokenOf(II)I -/
noncomputable def R_50_121 (h : Hp) : Option (Int32 × Hp) := some (23, h)
theorem r_50_121 {X : GX} {d : Nat} {r : Int32 × Hp} (hd : 21 ≤ d) (hq : RtX X (some (.int r.1)) r.2) {h : Hp} (e : R_50_121 h = some r) : G X d 50 121 [none, none, none] [] h := by
  unfold R_50_121 at e
  rw [← Option.some.inj e] at hq
  exact k_50_121 hq
noncomputable def R_50_124 (h : Hp) : Option (Int32 × Hp) := some (24, h)
theorem r_50_124 {X : GX} {d : Nat} {r : Int32 × Hp} (hd : 21 ≤ d) (hq : RtX X (some (.int r.1)) r.2) {h : Hp} (e : R_50_124 h = some r) : G X d 50 124 [none, none, none] [] h := by
  unfold R_50_124 at e
  rw [← Option.some.inj e] at hq
  exact k_50_124 hq
noncomputable def R_50_127 (h : Hp) : Option (Int32 × Hp) := some (25, h)
theorem r_50_127 {X : GX} {d : Nat} {r : Int32 × Hp} (hd : 21 ≤ d) (hq : RtX X (some (.int r.1)) r.2) {h : Hp} (e : R_50_127 h = some r) : G X d 50 127 [none, none, none] [] h := by
  unfold R_50_127 at e
  rw [← Option.some.inj e] at hq
  exact k_50_127 hq
noncomputable def R_50_112 (h : Hp) : Option (Int32 × Hp) := some (20, h)
theorem r_50_112 {X : GX} {d : Nat} {r : Int32 × Hp} (hd : 21 ≤ d) (hq : RtX X (some (.int r.1)) r.2) {h : Hp} (e : R_50_112 h = some r) : G X d 50 112 [none, none, none] [] h := by
  unfold R_50_112 at e
  rw [← Option.some.inj e] at hq
  exact k_50_112 hq
noncomputable def R_50_115 (h : Hp) : Option (Int32 × Hp) := some (21, h)
theorem r_50_115 {X : GX} {d : Nat} {r : Int32 × Hp} (hd : 21 ≤ d) (hq : RtX X (some (.int r.1)) r.2) {h : Hp} (e : R_50_115 h = some r) : G X d 50 115 [none, none, none] [] h := by
  unfold R_50_115 at e
  rw [← Option.some.inj e] at hq
  exact k_50_115 hq
noncomputable def R_50_118 (h : Hp) : Option (Int32 × Hp) := some (22, h)
theorem r_50_118 {X : GX} {d : Nat} {r : Int32 × Hp} (hd : 21 ≤ d) (hq : RtX X (some (.int r.1)) r.2) {h : Hp} (e : R_50_118 h = some r) : G X d 50 118 [none, none, none] [] h := by
  unfold R_50_118 at e
  rw [← Option.some.inj e] at hq
  exact k_50_118 hq
noncomputable def R_50_130 (h : Hp) : Option (Int32 × Hp) := some (28, h)
theorem r_50_130 {X : GX} {d : Nat} {r : Int32 × Hp} (hd : 21 ≤ d) (hq : RtX X (some (.int r.1)) r.2) {h : Hp} (e : R_50_130 h = some r) : G X d 50 130 [none, none, none] [] h := by
  unfold R_50_130 at e
  rw [← Option.some.inj e] at hq
  exact k_50_130 hq
noncomputable def R_50_46 (v1 : Int32) (h : Hp) : Option (Int32 × Hp) := gd (IA 22 v1) (if (h 22 (Int32.toNatClampNeg v1)) = 40 then R_50_121 h else (if (h 22 (Int32.toNatClampNeg v1)) = 41 then R_50_124 h else (if (h 22 (Int32.toNatClampNeg v1)) = 59 then R_50_127 h else (if (h 22 (Int32.toNatClampNeg v1)) = 60 then R_50_112 h else (if (h 22 (Int32.toNatClampNeg v1)) = 61 then R_50_115 h else (if (h 22 (Int32.toNatClampNeg v1)) = 62 then R_50_118 h else (R_50_130 h)))))))
theorem r_50_46 {X : GX} {d : Nat} {r : Int32 × Hp} (hd : 21 ≤ d) (hq : RtX X (some (.int r.1)) r.2) {h : Hp} {v1 : Int32} (e : R_50_46 v1 h = some r) : G X d 50 46 [some (.ref 21), some (.int v1), none] [] h := by
  unfold R_50_46 at e
  have g := gd_s e; clear e; obtain ⟨b0, e⟩ := g
  refine k_50_46 b0 (fun c => ?_) (fun c => ?_) (fun c => ?_) (fun c => ?_) (fun c => ?_) (fun c => ?_) (fun c0 c1 c2 c3 c4 c5 => ?_)
  · rw [if_pos c] at e; exact r_50_121 hd hq e
  · rw [if_neg (show ¬ (h 22 (Int32.toNatClampNeg v1)) = 40 by rw [c]; decide), if_pos c] at e; exact r_50_124 hd hq e
  · rw [if_neg (show ¬ (h 22 (Int32.toNatClampNeg v1)) = 40 by rw [c]; decide), if_neg (show ¬ (h 22 (Int32.toNatClampNeg v1)) = 41 by rw [c]; decide), if_pos c] at e; exact r_50_127 hd hq e
  · rw [if_neg (show ¬ (h 22 (Int32.toNatClampNeg v1)) = 40 by rw [c]; decide), if_neg (show ¬ (h 22 (Int32.toNatClampNeg v1)) = 41 by rw [c]; decide), if_neg (show ¬ (h 22 (Int32.toNatClampNeg v1)) = 59 by rw [c]; decide), if_pos c] at e; exact r_50_112 hd hq e
  · rw [if_neg (show ¬ (h 22 (Int32.toNatClampNeg v1)) = 40 by rw [c]; decide), if_neg (show ¬ (h 22 (Int32.toNatClampNeg v1)) = 41 by rw [c]; decide), if_neg (show ¬ (h 22 (Int32.toNatClampNeg v1)) = 59 by rw [c]; decide), if_neg (show ¬ (h 22 (Int32.toNatClampNeg v1)) = 60 by rw [c]; decide), if_pos c] at e; exact r_50_115 hd hq e
  · rw [if_neg (show ¬ (h 22 (Int32.toNatClampNeg v1)) = 40 by rw [c]; decide), if_neg (show ¬ (h 22 (Int32.toNatClampNeg v1)) = 41 by rw [c]; decide), if_neg (show ¬ (h 22 (Int32.toNatClampNeg v1)) = 59 by rw [c]; decide), if_neg (show ¬ (h 22 (Int32.toNatClampNeg v1)) = 60 by rw [c]; decide), if_neg (show ¬ (h 22 (Int32.toNatClampNeg v1)) = 61 by rw [c]; decide), if_pos c] at e; exact r_50_118 hd hq e
  · rw [if_neg c0, if_neg c1, if_neg c2, if_neg c3, if_neg c4, if_neg c5] at e; exact r_50_130 hd hq e
noncomputable def R_50_43 (h : Hp) : Option (Int32 × Hp) := some (28, h)
theorem r_50_43 {X : GX} {d : Nat} {r : Int32 × Hp} (hd : 21 ≤ d) (hq : RtX X (some (.int r.1)) r.2) {h : Hp} (e : R_50_43 h = some r) : G X d 50 43 [none, none, none] [] h := by
  unfold R_50_43 at e
  rw [← Option.some.inj e] at hq
  exact k_50_43 hq
noncomputable def R_50_38 (h : Hp) : Option (Int32 × Hp) := some (26, h)
theorem r_50_38 {X : GX} {d : Nat} {r : Int32 × Hp} (hd : 21 ≤ d) (hq : RtX X (some (.int r.1)) r.2) {h : Hp} (e : R_50_38 h = some r) : G X d 50 38 [none, none, none] [] h := by
  unfold R_50_38 at e
  rw [← Option.some.inj e] at hq
  exact k_50_38 hq
noncomputable def R_50_31 (v1 : Int32) (v2 : Int32) (h : Hp) : Option (Int32 × Hp) := if 4 < (v2 - v1) then R_50_43 h else R_50_38 h
theorem r_50_31 {X : GX} {d : Nat} {r : Int32 × Hp} (hd : 21 ≤ d) (hq : RtX X (some (.int r.1)) r.2) {h : Hp} {v1 : Int32} {v2 : Int32} (e : R_50_31 v1 v2 h = some r) : G X d 50 31 [none, some (.int v1), some (.int v2)] [] h := by
  unfold R_50_31 at e
  refine k_50_31 (fun c => ?_) (fun c => ?_)
  · rw [if_pos c] at e; exact r_50_43 hd hq e
  · rw [if_neg c] at e; exact r_50_38 hd hq e
noncomputable def R_50_28 (v1 : Int32) (v2 : Int32) (s0 : Int32) (h : Hp) : Option (Int32 × Hp) := if s0 = 0 then R_50_46 v1 h else R_50_31 v1 v2 h
theorem r_50_28 {X : GX} {d : Nat} {r : Int32 × Hp} (hd : 21 ≤ d) (hq : RtX X (some (.int r.1)) r.2) {h : Hp} {v1 : Int32} {v2 : Int32} {s0 : Int32} (e : R_50_28 v1 v2 s0 h = some r) : G X d 50 28 [some (.ref 21), some (.int v1), some (.int v2)] [.int s0] h := by
  unfold R_50_28 at e
  refine k_50_28 (fun c => ?_) (fun c => ?_)
  · rw [if_pos c] at e; exact r_50_46 hd hq e
  · rw [if_neg c] at e; exact r_50_31 hd hq e
noncomputable def R_50_19 (v1 : Int32) (v2 : Int32) (h : Hp) : Option (Int32 × Hp) := gd (IA 22 v1) (bndI (S_49 (h 22 (Int32.toNatClampNeg v1)) h) (R_50_28 v1 v2))
theorem r_50_19 {X : GX} {d : Nat} {r : Int32 × Hp} (hd : 21 ≤ d) (hq : RtX X (some (.int r.1)) r.2) {h : Hp} {v1 : Int32} {v2 : Int32} (e : R_50_19 v1 v2 h = some r) : G X d 50 19 [some (.ref 21), some (.int v1), some (.int v2)] [] h := by
  unfold R_50_19 at e
  have g := gd_s e; clear e; obtain ⟨b0, e⟩ := g
  obtain ⟨x, h2, e1, e2⟩ := bndI_s e
  refine k_50_19 b0 (by omega) (t_49 e1) ?_
  rintro _ _ ⟨rfl, rfl⟩
  exact r_50_28 hd hq e2
noncomputable def R_50_18 (s0 : Int32) (h : Hp) : Option (Int32 × Hp) := some (s0, h)
theorem r_50_18 {X : GX} {d : Nat} {r : Int32 × Hp} (hd : 21 ≤ d) (hq : RtX X (some (.int r.1)) r.2) {h : Hp} {s0 : Int32} (e : R_50_18 s0 h = some r) : G X d 50 18 [none, none, none] [.int s0] h := by
  unfold R_50_18 at e
  rw [← Option.some.inj e] at hq
  exact k_50_18 hq
noncomputable def R_50_12 (v1 : Int32) (v2 : Int32) (h : Hp) : Option (Int32 × Hp) := bndI (S_51 v1 v2 h) (R_50_18)
theorem r_50_12 {X : GX} {d : Nat} {r : Int32 × Hp} (hd : 21 ≤ d) (hq : RtX X (some (.int r.1)) r.2) {h : Hp} {v1 : Int32} {v2 : Int32} (e : R_50_12 v1 v2 h = some r) : G X d 50 12 [some (.ref 21), some (.int v1), some (.int v2)] [] h := by
  unfold R_50_12 at e
  obtain ⟨x, h2, e1, e2⟩ := bndI_s e
  refine k_50_12 (by omega) (t_51 e1) ?_
  rintro _ _ ⟨rfl, rfl⟩
  exact r_50_18 hd hq e2
noncomputable def R_50_9 (v1 : Int32) (v2 : Int32) (s0 : Int32) (h : Hp) : Option (Int32 × Hp) := if s0 = 0 then R_50_19 v1 v2 h else R_50_12 v1 v2 h
theorem r_50_9 {X : GX} {d : Nat} {r : Int32 × Hp} (hd : 21 ≤ d) (hq : RtX X (some (.int r.1)) r.2) {h : Hp} {v1 : Int32} {v2 : Int32} {s0 : Int32} (e : R_50_9 v1 v2 s0 h = some r) : G X d 50 9 [some (.ref 21), some (.int v1), some (.int v2)] [.int s0] h := by
  unfold R_50_9 at e
  refine k_50_9 (fun c => ?_) (fun c => ?_)
  · rw [if_pos c] at e; exact r_50_19 hd hq e
  · rw [if_neg c] at e; exact r_50_12 hd hq e
noncomputable def R_50_0 (v1 : Int32) (v2 : Int32) (h : Hp) : Option (Int32 × Hp) := gd (IA 22 v1) (bndI (S_48 (h 22 (Int32.toNatClampNeg v1)) h) (R_50_9 v1 v2))
theorem r_50_0 {X : GX} {d : Nat} {r : Int32 × Hp} (hd : 21 ≤ d) (hq : RtX X (some (.int r.1)) r.2) {h : Hp} {v1 : Int32} {v2 : Int32} (e : R_50_0 v1 v2 h = some r) : G X d 50 0 [some (.ref 21), some (.int v1), some (.int v2)] [] h := by
  unfold R_50_0 at e
  have g := gd_s e; clear e; obtain ⟨b0, e⟩ := g
  obtain ⟨x, h2, e1, e2⟩ := bndI_s e
  refine k_50_0 b0 (by omega) (t_48 e1) ?_
  rintro _ _ ⟨rfl, rfl⟩
  exact r_50_9 hd hq e2
noncomputable def S_50 (v1 : Int32) (v2 : Int32) (h : Hp) : Option (Int32 × Hp) := R_50_0 v1 v2 h
set_option maxRecDepth 100000 in
theorem t_50 {v1 : Int32} {v2 : Int32} {h : Hp} {r : Int32 × Hp} (e : S_50 v1 v2 h = some r) : CI 21 50 [.ref 21, .int v1, .int v2] h (fun x g => x = r.1 ∧ g = r.2) := by
  refine C.of mo_50 (Nat.le_of_ble_eq_true rfl) (fun X hq => ?_)
  exact r_50_0 (Nat.le_refl _) (hq _ _ ⟨_, rfl, rfl, rfl⟩) e
/-! 64 PlayedTruth$RuleReader.numberOf(II)I -/
noncomputable def R_64_33 (v3 : Int32) (h : Hp) : Option (Int32 × Hp) := some (v3, h)
theorem r_64_33 {X : GX} {d : Nat} {r : Int32 × Hp} (hd : 1 ≤ d) (hq : RtX X (some (.int r.1)) r.2) {h : Hp} {v3 : Int32} (e : R_64_33 v3 h = some r) : G X d 64 33 [none, none, none, some (.int v3), none] [] h := by
  unfold R_64_33 at e
  rw [← Option.some.inj e] at hq
  exact k_64_33 hq
noncomputable def R_64_11 (rec_5 : Int32 → Int32 → Int32 → Hp → Option (Int32 × Hp)) (v2 : Int32) (v3 : Int32) (v4 : Int32) (h : Hp) : Option (Int32 × Hp) := gd (IA 22 v4) (rec_5 v2 (((v3 * 10) + (h 22 (Int32.toNatClampNeg v4))) - 48) (v4 + 1) h)
theorem r_64_11 {X : GX} {d : Nat} {r : Int32 × Hp} (hd : 1 ≤ d) (hq : RtX X (some (.int r.1)) r.2) {rec_5 : Int32 → Int32 → Int32 → Hp → Option (Int32 × Hp)} (hr_5 : ∀ {v2 : Int32} {v3 : Int32} {v4 : Int32} {h : Hp}, rec_5 v2 v3 v4 h = some r → G X d 64 5 [some (.ref 21), none, some (.int v2), some (.int v3), some (.int v4)] [] h) {h : Hp} {v2 : Int32} {v3 : Int32} {v4 : Int32} (e : R_64_11 rec_5 v2 v3 v4 h = some r) : G X d 64 11 [some (.ref 21), none, some (.int v2), some (.int v3), some (.int v4)] [] h := by
  unfold R_64_11 at e
  have g := gd_s e; clear e; obtain ⟨b0, e⟩ := g
  exact k_64_11 b0 (hr_5 e)
noncomputable def R_64_5 (rec_5 : Int32 → Int32 → Int32 → Hp → Option (Int32 × Hp)) (v2 : Int32) (v3 : Int32) (v4 : Int32) (h : Hp) : Option (Int32 × Hp) := if v2 ≤ v4 then R_64_33 v3 h else R_64_11 rec_5 v2 v3 v4 h
theorem r_64_5 {X : GX} {d : Nat} {r : Int32 × Hp} (hd : 1 ≤ d) (hq : RtX X (some (.int r.1)) r.2) {rec_5 : Int32 → Int32 → Int32 → Hp → Option (Int32 × Hp)} (hr_5 : ∀ {v2 : Int32} {v3 : Int32} {v4 : Int32} {h : Hp}, rec_5 v2 v3 v4 h = some r → G X d 64 5 [some (.ref 21), none, some (.int v2), some (.int v3), some (.int v4)] [] h) {h : Hp} {v2 : Int32} {v3 : Int32} {v4 : Int32} (e : R_64_5 rec_5 v2 v3 v4 h = some r) : G X d 64 5 [some (.ref 21), none, some (.int v2), some (.int v3), some (.int v4)] [] h := by
  unfold R_64_5 at e
  refine k_64_5 (fun c => ?_) (fun c => ?_)
  · rw [if_pos c] at e; exact r_64_33 hd hq e
  · rw [if_neg c] at e; exact r_64_11 hd hq hr_5 e
noncomputable def H_64_5 : Nat → Int32 → Int32 → Int32 → Hp → Option (Int32 × Hp)
  | 0, _, _, _, _ => none
  | n + 1, v2, v3, v4, h => R_64_5 (H_64_5 n) v2 v3 v4 h
theorem h_64_5 {X : GX} {d : Nat} {r : Int32 × Hp} (hd : 1 ≤ d) (hq : RtX X (some (.int r.1)) r.2) {n : Nat} {h : Hp} {v2 : Int32} {v3 : Int32} {v4 : Int32} (e : H_64_5 n v2 v3 v4 h = some r) : G X d 64 5 [some (.ref 21), none, some (.int v2), some (.int v3), some (.int v4)] [] h := by
  induction n generalizing v2 v3 v4 h with
  | zero => cases e
  | succ n ih => exact r_64_5 hd hq (fun e => ih e) e
noncomputable def R_64_0 (v1 : Int32) (v2 : Int32) (h : Hp) : Option (Int32 × Hp) := H_64_5 fuL v2 0 v1 h
theorem r_64_0 {X : GX} {d : Nat} {r : Int32 × Hp} (hd : 1 ≤ d) (hq : RtX X (some (.int r.1)) r.2) {h : Hp} {v1 : Int32} {v2 : Int32} (e : R_64_0 v1 v2 h = some r) : G X d 64 0 [some (.ref 21), some (.int v1), some (.int v2), none, none] [] h := by
  unfold R_64_0 at e
  exact k_64_0 (h_64_5 hd hq e)
noncomputable def S_64 (v1 : Int32) (v2 : Int32) (h : Hp) : Option (Int32 × Hp) := R_64_0 v1 v2 h
set_option maxRecDepth 100000 in
theorem t_64 {v1 : Int32} {v2 : Int32} {h : Hp} {r : Int32 × Hp} (e : S_64 v1 v2 h = some r) : CI 1 64 [.ref 21, .int v1, .int v2] h (fun x g => x = r.1 ∧ g = r.2) := by
  refine C.of mo_64 (Nat.le_of_ble_eq_true rfl) (fun X hq => ?_)
  exact r_64_0 (Nat.le_refl _) (hq _ _ ⟨_, rfl, rfl, rfl⟩) e
/-! 46 PlayedTruth$RuleReader.split()V -/
noncomputable def R_46_91 (v1 : Int32) (h : Hp) : Option (Int32 × Hp) := gd (IA 28 v1 ∧ IA 29 v1) (some (0, (wr (wr h 28 (Int32.toNatClampNeg v1) 27) 29 (Int32.toNatClampNeg v1) ((wr h 28 (Int32.toNatClampNeg v1) 27) 21 1))))
theorem r_46_91 {X : GX} {d : Nat} {r : Int32 × Hp} (hd : 22 ≤ d) (hq : RtX X none r.2) {h : Hp} {v1 : Int32} (e : R_46_91 v1 h = some r) : G X d 46 91 [some (.ref 21), some (.int v1), none, none] [] h := by
  unfold R_46_91 at e
  have g := gd_s e; clear e; obtain ⟨⟨b0, b1⟩, e⟩ := g
  rw [← Option.some.inj e] at hq
  exact k_46_91 b0 b1 hq
noncomputable def R_46_76 (rec_4 : Int32 → Int32 → Hp → Option (Int32 × Hp)) (v1 : Int32) (v3 : Int32) (s1 : Nat) (s0 : Int32) (h : Hp) : Option (Int32 × Hp) := gd (IA s1 s0) (rec_4 (v1 + 1) ((v3 - 1) + 1) ((wr h s1 (Int32.toNatClampNeg s0) 0)))
theorem r_46_76 {X : GX} {d : Nat} {r : Int32 × Hp} (hd : 22 ≤ d) (hq : RtX X none r.2) {rec_4 : Int32 → Int32 → Hp → Option (Int32 × Hp)} (hr_4 : ∀ {v1 : Int32} {v2 : Int32} {h : Hp}, rec_4 v1 v2 h = some r → G X d 46 4 [some (.ref 21), some (.int v1), some (.int v2), none] [] h) {h : Hp} {v1 : Int32} {v3 : Int32} {s1 : Nat} {s0 : Int32} (e : R_46_76 rec_4 v1 v3 s1 s0 h = some r) : G X d 46 76 [some (.ref 21), some (.int v1), none, some (.int v3)] [.int s0, .ref s1] h := by
  unfold R_46_76 at e
  have g := gd_s e; clear e; obtain ⟨b0, e⟩ := g
  exact k_46_76 b0 (hr_4 e)
noncomputable def R_46_73 (rec_4 : Int32 → Int32 → Hp → Option (Int32 × Hp)) (v1 : Int32) (v3 : Int32) (s1 : Int32) (s2 : Nat) (s0 : Int32) (h : Hp) : Option (Int32 × Hp) := gd (IA s2 s1) (rec_4 (v1 + 1) ((v3 - 1) + 1) ((wr h s2 (Int32.toNatClampNeg s1) s0)))
theorem r_46_73 {X : GX} {d : Nat} {r : Int32 × Hp} (hd : 22 ≤ d) (hq : RtX X none r.2) {rec_4 : Int32 → Int32 → Hp → Option (Int32 × Hp)} (hr_4 : ∀ {v1 : Int32} {v2 : Int32} {h : Hp}, rec_4 v1 v2 h = some r → G X d 46 4 [some (.ref 21), some (.int v1), some (.int v2), none] [] h) {h : Hp} {v1 : Int32} {v3 : Int32} {s1 : Int32} {s2 : Nat} {s0 : Int32} (e : R_46_73 rec_4 v1 v3 s1 s2 s0 h = some r) : G X d 46 73 [some (.ref 21), some (.int v1), none, some (.int v3)] [.int s0, .int s1, .ref s2] h := by
  unfold R_46_73 at e
  have g := gd_s e; clear e; obtain ⟨b0, e⟩ := g
  exact k_46_73 b0 (hr_4 e)
noncomputable def R_46_67 (rec_4 : Int32 → Int32 → Hp → Option (Int32 × Hp)) (v1 : Int32) (v2 : Int32) (v3 : Int32) (s1 : Nat) (s0 : Int32) (h : Hp) : Option (Int32 × Hp) := bndI (S_64 v2 v3 h) (R_46_73 rec_4 v1 v3 s0 s1)
theorem r_46_67 {X : GX} {d : Nat} {r : Int32 × Hp} (hd : 22 ≤ d) (hq : RtX X none r.2) {rec_4 : Int32 → Int32 → Hp → Option (Int32 × Hp)} (hr_4 : ∀ {v1 : Int32} {v2 : Int32} {h : Hp}, rec_4 v1 v2 h = some r → G X d 46 4 [some (.ref 21), some (.int v1), some (.int v2), none] [] h) {h : Hp} {v1 : Int32} {v2 : Int32} {v3 : Int32} {s1 : Nat} {s0 : Int32} (e : R_46_67 rec_4 v1 v2 v3 s1 s0 h = some r) : G X d 46 67 [some (.ref 21), some (.int v1), some (.int v2), some (.int v3)] [.int s0, .ref s1] h := by
  unfold R_46_67 at e
  obtain ⟨x, h2, e1, e2⟩ := bndI_s e
  refine k_46_67 (by omega) (t_64 e1) ?_
  rintro _ _ ⟨rfl, rfl⟩
  exact r_46_73 hd hq hr_4 e2
noncomputable def R_46_43 (rec_4 : Int32 → Int32 → Hp → Option (Int32 × Hp)) (v1 : Int32) (v2 : Int32) (v3 : Int32) (s1 : Int32) (s2 : Nat) (s0 : Int32) (h : Hp) : Option (Int32 × Hp) := gd (IA s2 s1 ∧ IA 29 v1 ∧ IA 28 v1) (if ((wr (wr h s2 (Int32.toNatClampNeg s1) s0) 29 (Int32.toNatClampNeg v1) v2) 28 (Int32.toNatClampNeg v1)) = 26 then R_46_67 rec_4 v1 v2 v3 30 v1 ((wr (wr h s2 (Int32.toNatClampNeg s1) s0) 29 (Int32.toNatClampNeg v1) v2)) else R_46_76 rec_4 v1 v3 30 v1 ((wr (wr h s2 (Int32.toNatClampNeg s1) s0) 29 (Int32.toNatClampNeg v1) v2)))
theorem r_46_43 {X : GX} {d : Nat} {r : Int32 × Hp} (hd : 22 ≤ d) (hq : RtX X none r.2) {rec_4 : Int32 → Int32 → Hp → Option (Int32 × Hp)} (hr_4 : ∀ {v1 : Int32} {v2 : Int32} {h : Hp}, rec_4 v1 v2 h = some r → G X d 46 4 [some (.ref 21), some (.int v1), some (.int v2), none] [] h) {h : Hp} {v1 : Int32} {v2 : Int32} {v3 : Int32} {s1 : Int32} {s2 : Nat} {s0 : Int32} (e : R_46_43 rec_4 v1 v2 v3 s1 s2 s0 h = some r) : G X d 46 43 [some (.ref 21), some (.int v1), some (.int v2), some (.int v3)] [.int s0, .int s1, .ref s2] h := by
  unfold R_46_43 at e
  have g := gd_s e; clear e; obtain ⟨⟨b0, b1, b2⟩, e⟩ := g
  refine k_46_43 b0 b1 b2 (fun c => ?_) (fun c => ?_)
  · rw [if_neg c] at e; exact r_46_76 hd hq hr_4 e
  · rw [if_pos c] at e; exact r_46_67 hd hq hr_4 e
noncomputable def R_46_31 (rec_4 : Int32 → Int32 → Hp → Option (Int32 × Hp)) (v1 : Int32) (v2 : Int32) (s0 : Int32) (h : Hp) : Option (Int32 × Hp) := bndI (S_50 v2 s0 h) (R_46_43 rec_4 v1 v2 s0 v1 28)
theorem r_46_31 {X : GX} {d : Nat} {r : Int32 × Hp} (hd : 22 ≤ d) (hq : RtX X none r.2) {rec_4 : Int32 → Int32 → Hp → Option (Int32 × Hp)} (hr_4 : ∀ {v1 : Int32} {v2 : Int32} {h : Hp}, rec_4 v1 v2 h = some r → G X d 46 4 [some (.ref 21), some (.int v1), some (.int v2), none] [] h) {h : Hp} {v1 : Int32} {v2 : Int32} {s0 : Int32} (e : R_46_31 rec_4 v1 v2 s0 h = some r) : G X d 46 31 [some (.ref 21), some (.int v1), some (.int v2), none] [.int s0] h := by
  unfold R_46_31 at e
  obtain ⟨x, h2, e1, e2⟩ := bndI_s e
  refine k_46_31 (by omega) (t_50 e1) ?_
  rintro _ _ ⟨rfl, rfl⟩
  exact r_46_43 hd hq hr_4 e2
noncomputable def R_46_26 (rec_4 : Int32 → Int32 → Hp → Option (Int32 × Hp)) (v1 : Int32) (v2 : Int32) (h : Hp) : Option (Int32 × Hp) := bndI (S_47 v2 h) (R_46_31 rec_4 v1 v2)
theorem r_46_26 {X : GX} {d : Nat} {r : Int32 × Hp} (hd : 22 ≤ d) (hq : RtX X none r.2) {rec_4 : Int32 → Int32 → Hp → Option (Int32 × Hp)} (hr_4 : ∀ {v1 : Int32} {v2 : Int32} {h : Hp}, rec_4 v1 v2 h = some r → G X d 46 4 [some (.ref 21), some (.int v1), some (.int v2), none] [] h) {h : Hp} {v1 : Int32} {v2 : Int32} (e : R_46_26 rec_4 v1 v2 h = some r) : G X d 46 26 [some (.ref 21), some (.int v1), some (.int v2), none] [] h := by
  unfold R_46_26 at e
  obtain ⟨x, h2, e1, e2⟩ := bndI_s e
  refine k_46_26 (by omega) (t_47 e1) ?_
  rintro _ _ ⟨rfl, rfl⟩
  exact r_46_31 hd hq hr_4 e2
noncomputable def R_46_23 (rec_4 : Int32 → Int32 → Hp → Option (Int32 × Hp)) (v1 : Int32) (v2 : Int32) (h : Hp) : Option (Int32 × Hp) := rec_4 v1 (v2 + 1) h
theorem r_46_23 {X : GX} {d : Nat} {r : Int32 × Hp} (hd : 22 ≤ d) (hq : RtX X none r.2) {rec_4 : Int32 → Int32 → Hp → Option (Int32 × Hp)} (hr_4 : ∀ {v1 : Int32} {v2 : Int32} {h : Hp}, rec_4 v1 v2 h = some r → G X d 46 4 [some (.ref 21), some (.int v1), some (.int v2), none] [] h) {h : Hp} {v1 : Int32} {v2 : Int32} (e : R_46_23 rec_4 v1 v2 h = some r) : G X d 46 23 [some (.ref 21), some (.int v1), some (.int v2), none] [] h := by
  unfold R_46_23 at e
  exact k_46_23 (hr_4 e)
noncomputable def R_46_12 (rec_4 : Int32 → Int32 → Hp → Option (Int32 × Hp)) (v1 : Int32) (v2 : Int32) (h : Hp) : Option (Int32 × Hp) := gd (IA 22 v2) (if (h 22 (Int32.toNatClampNeg v2)) = 32 then R_46_23 rec_4 v1 v2 h else R_46_26 rec_4 v1 v2 h)
theorem r_46_12 {X : GX} {d : Nat} {r : Int32 × Hp} (hd : 22 ≤ d) (hq : RtX X none r.2) {rec_4 : Int32 → Int32 → Hp → Option (Int32 × Hp)} (hr_4 : ∀ {v1 : Int32} {v2 : Int32} {h : Hp}, rec_4 v1 v2 h = some r → G X d 46 4 [some (.ref 21), some (.int v1), some (.int v2), none] [] h) {h : Hp} {v1 : Int32} {v2 : Int32} (e : R_46_12 rec_4 v1 v2 h = some r) : G X d 46 12 [some (.ref 21), some (.int v1), some (.int v2), none] [] h := by
  unfold R_46_12 at e
  have g := gd_s e; clear e; obtain ⟨b0, e⟩ := g
  refine k_46_12 b0 (fun c => ?_) (fun c => ?_)
  · rw [if_neg c] at e; exact r_46_26 hd hq hr_4 e
  · rw [if_pos c] at e; exact r_46_23 hd hq hr_4 e
noncomputable def R_46_4 (rec_4 : Int32 → Int32 → Hp → Option (Int32 × Hp)) (v1 : Int32) (v2 : Int32) (h : Hp) : Option (Int32 × Hp) := if (h 21 1) ≤ v2 then R_46_91 v1 h else R_46_12 rec_4 v1 v2 h
theorem r_46_4 {X : GX} {d : Nat} {r : Int32 × Hp} (hd : 22 ≤ d) (hq : RtX X none r.2) {rec_4 : Int32 → Int32 → Hp → Option (Int32 × Hp)} (hr_4 : ∀ {v1 : Int32} {v2 : Int32} {h : Hp}, rec_4 v1 v2 h = some r → G X d 46 4 [some (.ref 21), some (.int v1), some (.int v2), none] [] h) {h : Hp} {v1 : Int32} {v2 : Int32} (e : R_46_4 rec_4 v1 v2 h = some r) : G X d 46 4 [some (.ref 21), some (.int v1), some (.int v2), none] [] h := by
  unfold R_46_4 at e
  refine k_46_4 (fun c => ?_) (fun c => ?_)
  · rw [if_pos c] at e; exact r_46_91 hd hq e
  · rw [if_neg c] at e; exact r_46_12 hd hq hr_4 e
noncomputable def H_46_4 : Nat → Int32 → Int32 → Hp → Option (Int32 × Hp)
  | 0, _, _, _ => none
  | n + 1, v1, v2, h => R_46_4 (H_46_4 n) v1 v2 h
theorem h_46_4 {X : GX} {d : Nat} {r : Int32 × Hp} (hd : 22 ≤ d) (hq : RtX X none r.2) {n : Nat} {h : Hp} {v1 : Int32} {v2 : Int32} (e : H_46_4 n v1 v2 h = some r) : G X d 46 4 [some (.ref 21), some (.int v1), some (.int v2), none] [] h := by
  induction n generalizing v1 v2 h with
  | zero => cases e
  | succ n ih => exact r_46_4 hd hq (fun e => ih e) e
noncomputable def R_46_0 (h : Hp) : Option (Int32 × Hp) := H_46_4 fuL 0 0 h
theorem r_46_0 {X : GX} {d : Nat} {r : Int32 × Hp} (hd : 22 ≤ d) (hq : RtX X none r.2) {h : Hp} (e : R_46_0 h = some r) : G X d 46 0 [some (.ref 21), none, none, none] [] h := by
  unfold R_46_0 at e
  exact k_46_0 (h_46_4 hd hq e)
noncomputable def S_46 (h : Hp) : Option (Int32 × Hp) := R_46_0 h
set_option maxRecDepth 100000 in
theorem t_46 {h : Hp} {r : Int32 × Hp} (e : S_46 h = some r) : CV 22 46 [.ref 21] h (fun g => g = r.2) := by
  refine C.of mo_46 (Nat.le_of_ble_eq_true rfl) (fun X hq => ?_)
  exact r_46_0 (Nat.le_refl _) (hq _ _ ⟨rfl, rfl⟩) e
/-! 65 PlayedTruth$Rules.clear()V -/
noncomputable def R_65_0 (h : Hp) : Option (Int32 × Hp) := some (0, (wr (wr h 23 4 0) 23 5 0))
theorem r_65_0 {X : GX} {d : Nat} {r : Int32 × Hp} (hd : 1 ≤ d) (hq : RtX X none r.2) {h : Hp} (e : R_65_0 h = some r) : G X d 65 0 [some (.ref 23)] [] h := by
  unfold R_65_0 at e
  rw [← Option.some.inj e] at hq
  exact k_65_0 hq
noncomputable def S_65 (h : Hp) : Option (Int32 × Hp) := R_65_0 h
set_option maxRecDepth 100000 in
theorem t_65 {h : Hp} {r : Int32 × Hp} (e : S_65 h = some r) : CV 1 65 [.ref 23] h (fun g => g = r.2) := by
  refine C.of mo_65 (Nat.le_of_ble_eq_true rfl) (fun X hq => ?_)
  exact r_65_0 (Nat.le_refl _) (hq _ _ ⟨rfl, rfl⟩) e
/-! 67 PlayedTruth$RuleReader.refuse()Z -/
noncomputable def R_67_0 (h : Hp) : Option (Int32 × Hp) := gd (IA 29 (h 21 7)) (some (0, (wr h 21 3 (h 29 (Int32.toNatClampNeg (h 21 7))))))
theorem r_67_0 {X : GX} {d : Nat} {r : Int32 × Hp} (hd : 1 ≤ d) (hq : RtX X (some (.int r.1)) r.2) {h : Hp} (e : R_67_0 h = some r) : G X d 67 0 [some (.ref 21)] [] h := by
  unfold R_67_0 at e
  have g := gd_s e; clear e; obtain ⟨b0, e⟩ := g
  rw [← Option.some.inj e] at hq
  exact k_67_0 b0 hq
noncomputable def S_67 (h : Hp) : Option (Int32 × Hp) := R_67_0 h
set_option maxRecDepth 100000 in
theorem t_67 {h : Hp} {r : Int32 × Hp} (e : S_67 h = some r) : CI 1 67 [.ref 21] h (fun x g => x = r.1 ∧ g = r.2) := by
  refine C.of mo_67 (Nat.le_of_ble_eq_true rfl) (fun X hq => ?_)
  exact r_67_0 (Nat.le_refl _) (hq _ _ ⟨_, rfl, rfl, rfl⟩) e
/-! 68 PlayedTruth$RuleReader.advance()V -/
noncomputable def R_68_29 (h : Hp) : Option (Int32 × Hp) := gd (IA 28 (h 21 7)) (some (0, (wr h 21 8 (h 28 (Int32.toNatClampNeg (h 21 7))))))
theorem r_68_29 {X : GX} {d : Nat} {r : Int32 × Hp} (hd : 1 ≤ d) (hq : RtX X none r.2) {h : Hp} (e : R_68_29 h = some r) : G X d 68 29 [some (.ref 21)] [] h := by
  unfold R_68_29 at e
  have g := gd_s e; clear e; obtain ⟨b0, e⟩ := g
  rw [← Option.some.inj e] at hq
  exact k_68_29 b0 hq
noncomputable def R_68_19 (h : Hp) : Option (Int32 × Hp) := gd (IA 28 ((wr h 21 7 ((h 21 7) + 1)) 21 7)) (some (0, (wr (wr h 21 7 ((h 21 7) + 1)) 21 8 ((wr h 21 7 ((h 21 7) + 1)) 28 (Int32.toNatClampNeg ((wr h 21 7 ((h 21 7) + 1)) 21 7))))))
theorem r_68_19 {X : GX} {d : Nat} {r : Int32 × Hp} (hd : 1 ≤ d) (hq : RtX X none r.2) {h : Hp} (e : R_68_19 h = some r) : G X d 68 19 [some (.ref 21)] [] h := by
  unfold R_68_19 at e
  have g := gd_s e; clear e; obtain ⟨b0, e⟩ := g
  rw [← Option.some.inj e] at hq
  exact k_68_19 b0 hq
noncomputable def R_68_10 (h : Hp) : Option (Int32 × Hp) := if (h 21 8) = 27 then R_68_29 h else R_68_19 h
theorem r_68_10 {X : GX} {d : Nat} {r : Int32 × Hp} (hd : 1 ≤ d) (hq : RtX X none r.2) {h : Hp} (e : R_68_10 h = some r) : G X d 68 10 [some (.ref 21)] [] h := by
  unfold R_68_10 at e
  refine k_68_10 (fun c => ?_) (fun c => ?_)
  · rw [if_pos c] at e; exact r_68_29 hd hq e
  · rw [if_neg c] at e; exact r_68_19 hd hq e
noncomputable def R_68_0 (h : Hp) : Option (Int32 × Hp) := if 200 ≤ (h 21 7) then R_68_29 h else R_68_10 h
theorem r_68_0 {X : GX} {d : Nat} {r : Int32 × Hp} (hd : 1 ≤ d) (hq : RtX X none r.2) {h : Hp} (e : R_68_0 h = some r) : G X d 68 0 [some (.ref 21)] [] h := by
  unfold R_68_0 at e
  refine k_68_0 (fun c => ?_) (fun c => ?_)
  · rw [if_pos c] at e; exact r_68_29 hd hq e
  · rw [if_neg c] at e; exact r_68_10 hd hq e
noncomputable def S_68 (h : Hp) : Option (Int32 × Hp) := R_68_0 h
set_option maxRecDepth 100000 in
theorem t_68 {h : Hp} {r : Int32 × Hp} (e : S_68 h = some r) : CV 1 68 [.ref 21] h (fun g => g = r.2) := by
  refine C.of mo_68 (Nat.le_of_ble_eq_true rfl) (fun X hq => ?_)
  exact r_68_0 (Nat.le_refl _) (hq _ _ ⟨rfl, rfl⟩) e
/-! 74 PlayedTruth$RuleReader.isValue()Z -/
noncomputable def R_74_27 (h : Hp) : Option (Int32 × Hp) := some (1, h)
theorem r_74_27 {X : GX} {d : Nat} {r : Int32 × Hp} (hd : 1 ≤ d) (hq : RtX X (some (.int r.1)) r.2) {h : Hp} (e : R_74_27 h = some r) : G X d 74 27 [none] [] h := by
  unfold R_74_27 at e
  rw [← Option.some.inj e] at hq
  exact k_74_27 hq
noncomputable def R_74_31 (h : Hp) : Option (Int32 × Hp) := some (0, h)
theorem r_74_31 {X : GX} {d : Nat} {r : Int32 × Hp} (hd : 1 ≤ d) (hq : RtX X (some (.int r.1)) r.2) {h : Hp} (e : R_74_31 h = some r) : G X d 74 31 [none] [] h := by
  unfold R_74_31 at e
  rw [← Option.some.inj e] at hq
  exact k_74_31 hq
noncomputable def R_74_18 (h : Hp) : Option (Int32 × Hp) := if 17 < (h 21 8) then R_74_31 h else R_74_27 h
theorem r_74_18 {X : GX} {d : Nat} {r : Int32 × Hp} (hd : 1 ≤ d) (hq : RtX X (some (.int r.1)) r.2) {h : Hp} (e : R_74_18 h = some r) : G X d 74 18 [some (.ref 21)] [] h := by
  unfold R_74_18 at e
  refine k_74_18 (fun c => ?_) (fun c => ?_)
  · rw [if_pos c] at e; exact r_74_31 hd hq e
  · rw [if_neg c] at e; exact r_74_27 hd hq e
noncomputable def R_74_9 (h : Hp) : Option (Int32 × Hp) := if (h 21 8) < 13 then R_74_31 h else R_74_18 h
theorem r_74_9 {X : GX} {d : Nat} {r : Int32 × Hp} (hd : 1 ≤ d) (hq : RtX X (some (.int r.1)) r.2) {h : Hp} (e : R_74_9 h = some r) : G X d 74 9 [some (.ref 21)] [] h := by
  unfold R_74_9 at e
  refine k_74_9 (fun c => ?_) (fun c => ?_)
  · rw [if_pos c] at e; exact r_74_31 hd hq e
  · rw [if_neg c] at e; exact r_74_18 hd hq e
noncomputable def R_74_0 (h : Hp) : Option (Int32 × Hp) := if (h 21 8) = 26 then R_74_27 h else R_74_9 h
theorem r_74_0 {X : GX} {d : Nat} {r : Int32 × Hp} (hd : 1 ≤ d) (hq : RtX X (some (.int r.1)) r.2) {h : Hp} (e : R_74_0 h = some r) : G X d 74 0 [some (.ref 21)] [] h := by
  unfold R_74_0 at e
  refine k_74_0 (fun c => ?_) (fun c => ?_)
  · rw [if_pos c] at e; exact r_74_27 hd hq e
  · rw [if_neg c] at e; exact r_74_9 hd hq e
noncomputable def S_74 (h : Hp) : Option (Int32 × Hp) := R_74_0 h
set_option maxRecDepth 100000 in
theorem t_74 {h : Hp} {r : Int32 × Hp} (e : S_74 h = some r) : CI 1 74 [.ref 21] h (fun x g => x = r.1 ∧ g = r.2) := by
  refine C.of mo_74 (Nat.le_of_ble_eq_true rfl) (fun X hq => ?_)
  exact r_74_0 (Nat.le_refl _) (hq _ _ ⟨_, rfl, rfl, rfl⟩) e
/-! 75 PlayedTruth$RuleReader.toldValue()I -/
noncomputable def R_75_21 (h : Hp) : Option (Int32 × Hp) := some (((10000 + (h 21 8)) - 13), h)
theorem r_75_21 {X : GX} {d : Nat} {r : Int32 × Hp} (hd : 1 ≤ d) (hq : RtX X (some (.int r.1)) r.2) {h : Hp} (e : R_75_21 h = some r) : G X d 75 21 [some (.ref 21)] [] h := by
  unfold R_75_21 at e
  rw [← Option.some.inj e] at hq
  exact k_75_21 hq
noncomputable def R_75_9 (h : Hp) : Option (Int32 × Hp) := gd (IA 30 (h 21 7)) (some ((h 30 (Int32.toNatClampNeg (h 21 7))), h))
theorem r_75_9 {X : GX} {d : Nat} {r : Int32 × Hp} (hd : 1 ≤ d) (hq : RtX X (some (.int r.1)) r.2) {h : Hp} (e : R_75_9 h = some r) : G X d 75 9 [some (.ref 21)] [] h := by
  unfold R_75_9 at e
  have g := gd_s e; clear e; obtain ⟨b0, e⟩ := g
  rw [← Option.some.inj e] at hq
  exact k_75_9 b0 hq
noncomputable def R_75_0 (h : Hp) : Option (Int32 × Hp) := if (h 21 8) = 26 then R_75_9 h else R_75_21 h
theorem r_75_0 {X : GX} {d : Nat} {r : Int32 × Hp} (hd : 1 ≤ d) (hq : RtX X (some (.int r.1)) r.2) {h : Hp} (e : R_75_0 h = some r) : G X d 75 0 [some (.ref 21)] [] h := by
  unfold R_75_0 at e
  refine k_75_0 (fun c => ?_) (fun c => ?_)
  · rw [if_neg c] at e; exact r_75_21 hd hq e
  · rw [if_pos c] at e; exact r_75_9 hd hq e
noncomputable def S_75 (h : Hp) : Option (Int32 × Hp) := R_75_0 h
set_option maxRecDepth 100000 in
theorem t_75 {h : Hp} {r : Int32 × Hp} (e : S_75 h = some r) : CI 1 75 [.ref 21] h (fun x g => x = r.1 ∧ g = r.2) := by
  refine C.of mo_75 (Nat.le_of_ble_eq_true rfl) (fun X hq => ?_)
  exact r_75_0 (Nat.le_refl _) (hq _ _ ⟨_, rfl, rfl, rfl⟩) e
/-! 76 PlayedTruth$Rules.addStep(I)V -/
noncomputable def R_76_27 (h : Hp) : Option (Int32 × Hp) := some (0, h)
theorem r_76_27 {X : GX} {d : Nat} {r : Int32 × Hp} (hd : 1 ≤ d) (hq : RtX X none r.2) {h : Hp} (e : R_76_27 h = some r) : G X d 76 27 [none, none] [] h := by
  unfold R_76_27 at e
  rw [← Option.some.inj e] at hq
  exact k_76_27 hq
noncomputable def R_76_10 (v1 : Int32) (h : Hp) : Option (Int32 × Hp) := gd (IA 27 (h 23 4)) (some (0, (wr (wr h 23 4 ((h 23 4) + 1)) 27 (Int32.toNatClampNeg (h 23 4)) v1)))
theorem r_76_10 {X : GX} {d : Nat} {r : Int32 × Hp} (hd : 1 ≤ d) (hq : RtX X none r.2) {h : Hp} {v1 : Int32} (e : R_76_10 v1 h = some r) : G X d 76 10 [some (.ref 23), some (.int v1)] [] h := by
  unfold R_76_10 at e
  have g := gd_s e; clear e; obtain ⟨b0, e⟩ := g
  rw [← Option.some.inj e] at hq
  exact k_76_10 b0 hq
noncomputable def R_76_0 (v1 : Int32) (h : Hp) : Option (Int32 × Hp) := if 200 ≤ (h 23 4) then R_76_27 h else R_76_10 v1 h
theorem r_76_0 {X : GX} {d : Nat} {r : Int32 × Hp} (hd : 1 ≤ d) (hq : RtX X none r.2) {h : Hp} {v1 : Int32} (e : R_76_0 v1 h = some r) : G X d 76 0 [some (.ref 23), some (.int v1)] [] h := by
  unfold R_76_0 at e
  refine k_76_0 (fun c => ?_) (fun c => ?_)
  · rw [if_pos c] at e; exact r_76_27 hd hq e
  · rw [if_neg c] at e; exact r_76_10 hd hq e
noncomputable def S_76 (v1 : Int32) (h : Hp) : Option (Int32 × Hp) := R_76_0 v1 h
set_option maxRecDepth 100000 in
theorem t_76 {v1 : Int32} {h : Hp} {r : Int32 × Hp} (e : S_76 v1 h = some r) : CV 1 76 [.ref 23, .int v1] h (fun g => g = r.2) := by
  refine C.of mo_76 (Nat.le_of_ble_eq_true rfl) (fun X hq => ?_)
  exact r_76_0 (Nat.le_refl _) (hq _ _ ⟨rfl, rfl⟩) e
/-! 73 PlayedTruth$RuleReader.readComparison()Z -/
noncomputable def R_73_43 (s0 : Int32) (h : Hp) : Option (Int32 × Hp) := gd (s0 = 0 ∨ s0 = 1) (some (s0, h))
theorem r_73_43 {X : GX} {d : Nat} {r : Int32 × Hp} (hd : 2 ≤ d) (hq : RtX X (some (.int r.1)) r.2) {h : Hp} {s0 : Int32} (e : R_73_43 s0 h = some r) : G X d 73 43 [none, none, none] [.int s0] h := by
  unfold R_73_43 at e
  have g := gd_s e; clear e; obtain ⟨z0, e⟩ := g
  rw [← Option.some.inj e] at hq
  exact k_73_43 z0 hq
noncomputable def R_73_39 (h : Hp) : Option (Int32 × Hp) := bndI (S_67 h) (R_73_43)
theorem r_73_39 {X : GX} {d : Nat} {r : Int32 × Hp} (hd : 2 ≤ d) (hq : RtX X (some (.int r.1)) r.2) {h : Hp} (e : R_73_39 h = some r) : G X d 73 39 [some (.ref 21), none, none] [] h := by
  unfold R_73_39 at e
  obtain ⟨x, h2, e1, e2⟩ := bndI_s e
  refine k_73_39 (by omega) (t_67 e1) ?_
  rintro _ _ ⟨rfl, rfl⟩
  exact r_73_43 hd hq e2
noncomputable def R_73_96 (h : Hp) : Option (Int32 × Hp) := some (1, h)
theorem r_73_96 {X : GX} {d : Nat} {r : Int32 × Hp} (hd : 2 ≤ d) (hq : RtX X (some (.int r.1)) r.2) {h : Hp} (e : R_73_96 h = some r) : G X d 73 96 [none, none, none] [] h := by
  unfold R_73_96 at e
  rw [← Option.some.inj e] at hq
  exact k_73_96 hq
noncomputable def R_73_92 (h : Hp) : Option (Int32 × Hp) := bndV (S_68 h) (R_73_96)
theorem r_73_92 {X : GX} {d : Nat} {r : Int32 × Hp} (hd : 2 ≤ d) (hq : RtX X (some (.int r.1)) r.2) {h : Hp} (e : R_73_92 h = some r) : G X d 73 92 [some (.ref 21), none, none] [] h := by
  unfold R_73_92 at e
  obtain ⟨x, h2, e1, e2⟩ := bndV_s e
  refine k_73_92 (by omega) (t_68 e1) ?_
  rintro _ rfl
  exact r_73_96 hd hq e2
noncomputable def R_73_89 (s1 : Nat) (s0 : Int32) (h : Hp) : Option (Int32 × Hp) := gd (sh s1 = (1, 5) ∧ s1 = 23) (bndV (S_76 s0 h) (R_73_92))
theorem r_73_89 {X : GX} {d : Nat} {r : Int32 × Hp} (hd : 2 ≤ d) (hq : RtX X (some (.int r.1)) r.2) {h : Hp} {s1 : Nat} {s0 : Int32} (e : R_73_89 s1 s0 h = some r) : G X d 73 89 [some (.ref 21), none, none] [.int s0, .ref s1] h := by
  unfold R_73_89 at e
  have g := gd_s e; clear e; obtain ⟨⟨o0, q0⟩, e⟩ := g
  subst q0
  obtain ⟨x, h2, e1, e2⟩ := bndV_s e
  refine k_73_89 o0 (by omega) (t_76 e1) ?_
  rintro _ rfl
  exact r_73_92 hd hq e2
noncomputable def R_73_81 (h : Hp) : Option (Int32 × Hp) := bndI (S_75 h) (R_73_89 23)
theorem r_73_81 {X : GX} {d : Nat} {r : Int32 × Hp} (hd : 2 ≤ d) (hq : RtX X (some (.int r.1)) r.2) {h : Hp} (e : R_73_81 h = some r) : G X d 73 81 [some (.ref 21), none, none] [] h := by
  unfold R_73_81 at e
  obtain ⟨x, h2, e1, e2⟩ := bndI_s e
  refine k_73_81 (by omega) (t_75 e1) ?_
  rintro _ _ ⟨rfl, rfl⟩
  exact r_73_89 hd hq e2
noncomputable def R_73_73 (v1 : Int32) (h : Hp) : Option (Int32 × Hp) := bndV (S_76 v1 h) (R_73_81)
theorem r_73_73 {X : GX} {d : Nat} {r : Int32 × Hp} (hd : 2 ≤ d) (hq : RtX X (some (.int r.1)) r.2) {h : Hp} {v1 : Int32} (e : R_73_73 v1 h = some r) : G X d 73 73 [some (.ref 21), some (.int v1), none] [] h := by
  unfold R_73_73 at e
  obtain ⟨x, h2, e1, e2⟩ := bndV_s e
  refine k_73_73 (by omega) (t_76 e1) ?_
  rintro _ rfl
  exact r_73_81 hd hq e2
noncomputable def R_73_65 (v1 : Int32) (v2 : Int32) (h : Hp) : Option (Int32 × Hp) := bndV (S_76 v2 h) (R_73_73 v1)
theorem r_73_65 {X : GX} {d : Nat} {r : Int32 × Hp} (hd : 2 ≤ d) (hq : RtX X (some (.int r.1)) r.2) {h : Hp} {v1 : Int32} {v2 : Int32} (e : R_73_65 v1 v2 h = some r) : G X d 73 65 [some (.ref 21), some (.int v1), some (.int v2)] [] h := by
  unfold R_73_65 at e
  obtain ⟨x, h2, e1, e2⟩ := bndV_s e
  refine k_73_65 (by omega) (t_76 e1) ?_
  rintro _ rfl
  exact r_73_73 hd hq e2
noncomputable def R_73_64 (s0 : Int32) (h : Hp) : Option (Int32 × Hp) := gd (s0 = 0 ∨ s0 = 1) (some (s0, h))
theorem r_73_64 {X : GX} {d : Nat} {r : Int32 × Hp} (hd : 2 ≤ d) (hq : RtX X (some (.int r.1)) r.2) {h : Hp} {s0 : Int32} (e : R_73_64 s0 h = some r) : G X d 73 64 [none, none, none] [.int s0] h := by
  unfold R_73_64 at e
  have g := gd_s e; clear e; obtain ⟨z0, e⟩ := g
  rw [← Option.some.inj e] at hq
  exact k_73_64 z0 hq
noncomputable def R_73_60 (h : Hp) : Option (Int32 × Hp) := bndI (S_67 h) (R_73_64)
theorem r_73_60 {X : GX} {d : Nat} {r : Int32 × Hp} (hd : 2 ≤ d) (hq : RtX X (some (.int r.1)) r.2) {h : Hp} (e : R_73_60 h = some r) : G X d 73 60 [some (.ref 21), none, none] [] h := by
  unfold R_73_60 at e
  obtain ⟨x, h2, e1, e2⟩ := bndI_s e
  refine k_73_60 (by omega) (t_67 e1) ?_
  rintro _ _ ⟨rfl, rfl⟩
  exact r_73_64 hd hq e2
noncomputable def R_73_57 (v1 : Int32) (v2 : Int32) (s0 : Int32) (h : Hp) : Option (Int32 × Hp) := if s0 = 0 then R_73_60 h else R_73_65 v1 v2 h
theorem r_73_57 {X : GX} {d : Nat} {r : Int32 × Hp} (hd : 2 ≤ d) (hq : RtX X (some (.int r.1)) r.2) {h : Hp} {v1 : Int32} {v2 : Int32} {s0 : Int32} (e : R_73_57 v1 v2 s0 h = some r) : G X d 73 57 [some (.ref 21), some (.int v1), some (.int v2)] [.int s0] h := by
  unfold R_73_57 at e
  refine k_73_57 (fun c => ?_) (fun c => ?_)
  · rw [if_neg c] at e; exact r_73_65 hd hq e
  · rw [if_pos c] at e; exact r_73_60 hd hq e
noncomputable def R_73_53 (v1 : Int32) (v2 : Int32) (h : Hp) : Option (Int32 × Hp) := bndI (S_74 h) (R_73_57 v1 v2)
theorem r_73_53 {X : GX} {d : Nat} {r : Int32 × Hp} (hd : 2 ≤ d) (hq : RtX X (some (.int r.1)) r.2) {h : Hp} {v1 : Int32} {v2 : Int32} (e : R_73_53 v1 v2 h = some r) : G X d 73 53 [some (.ref 21), some (.int v1), some (.int v2)] [] h := by
  unfold R_73_53 at e
  obtain ⟨x, h2, e1, e2⟩ := bndI_s e
  refine k_73_53 (by omega) (t_74 e1) ?_
  rintro _ _ ⟨rfl, rfl⟩
  exact r_73_57 hd hq e2
noncomputable def R_73_44 (v1 : Int32) (h : Hp) : Option (Int32 × Hp) := bndV (S_68 h) (R_73_53 v1 (h 21 8))
theorem r_73_44 {X : GX} {d : Nat} {r : Int32 × Hp} (hd : 2 ≤ d) (hq : RtX X (some (.int r.1)) r.2) {h : Hp} {v1 : Int32} (e : R_73_44 v1 h = some r) : G X d 73 44 [some (.ref 21), some (.int v1), none] [] h := by
  unfold R_73_44 at e
  obtain ⟨x, h2, e1, e2⟩ := bndV_s e
  refine k_73_44 (by omega) (t_68 e1) ?_
  rintro _ rfl
  exact r_73_53 hd hq e2
noncomputable def R_73_30 (v1 : Int32) (h : Hp) : Option (Int32 × Hp) := if (h 21 8) ≤ 22 then R_73_44 v1 h else R_73_39 h
theorem r_73_30 {X : GX} {d : Nat} {r : Int32 × Hp} (hd : 2 ≤ d) (hq : RtX X (some (.int r.1)) r.2) {h : Hp} {v1 : Int32} (e : R_73_30 v1 h = some r) : G X d 73 30 [some (.ref 21), some (.int v1), none] [] h := by
  unfold R_73_30 at e
  refine k_73_30 (fun c => ?_) (fun c => ?_)
  · rw [if_pos c] at e; exact r_73_44 hd hq e
  · rw [if_neg c] at e; exact r_73_39 hd hq e
noncomputable def R_73_21 (v1 : Int32) (h : Hp) : Option (Int32 × Hp) := if (h 21 8) < 20 then R_73_39 h else R_73_30 v1 h
theorem r_73_21 {X : GX} {d : Nat} {r : Int32 × Hp} (hd : 2 ≤ d) (hq : RtX X (some (.int r.1)) r.2) {h : Hp} {v1 : Int32} (e : R_73_21 v1 h = some r) : G X d 73 21 [some (.ref 21), some (.int v1), none] [] h := by
  unfold R_73_21 at e
  refine k_73_21 (fun c => ?_) (fun c => ?_)
  · rw [if_pos c] at e; exact r_73_39 hd hq e
  · rw [if_neg c] at e; exact r_73_30 hd hq e
noncomputable def R_73_16 (s0 : Int32) (h : Hp) : Option (Int32 × Hp) := bndV (S_68 h) (R_73_21 s0)
theorem r_73_16 {X : GX} {d : Nat} {r : Int32 × Hp} (hd : 2 ≤ d) (hq : RtX X (some (.int r.1)) r.2) {h : Hp} {s0 : Int32} (e : R_73_16 s0 h = some r) : G X d 73 16 [some (.ref 21), none, none] [.int s0] h := by
  unfold R_73_16 at e
  obtain ⟨x, h2, e1, e2⟩ := bndV_s e
  refine k_73_16 (by omega) (t_68 e1) ?_
  rintro _ rfl
  exact r_73_21 hd hq e2
noncomputable def R_73_12 (h : Hp) : Option (Int32 × Hp) := bndI (S_75 h) (R_73_16)
theorem r_73_12 {X : GX} {d : Nat} {r : Int32 × Hp} (hd : 2 ≤ d) (hq : RtX X (some (.int r.1)) r.2) {h : Hp} (e : R_73_12 h = some r) : G X d 73 12 [some (.ref 21), none, none] [] h := by
  unfold R_73_12 at e
  obtain ⟨x, h2, e1, e2⟩ := bndI_s e
  refine k_73_12 (by omega) (t_75 e1) ?_
  rintro _ _ ⟨rfl, rfl⟩
  exact r_73_16 hd hq e2
noncomputable def R_73_11 (s0 : Int32) (h : Hp) : Option (Int32 × Hp) := gd (s0 = 0 ∨ s0 = 1) (some (s0, h))
theorem r_73_11 {X : GX} {d : Nat} {r : Int32 × Hp} (hd : 2 ≤ d) (hq : RtX X (some (.int r.1)) r.2) {h : Hp} {s0 : Int32} (e : R_73_11 s0 h = some r) : G X d 73 11 [none, none, none] [.int s0] h := by
  unfold R_73_11 at e
  have g := gd_s e; clear e; obtain ⟨z0, e⟩ := g
  rw [← Option.some.inj e] at hq
  exact k_73_11 z0 hq
noncomputable def R_73_7 (h : Hp) : Option (Int32 × Hp) := bndI (S_67 h) (R_73_11)
theorem r_73_7 {X : GX} {d : Nat} {r : Int32 × Hp} (hd : 2 ≤ d) (hq : RtX X (some (.int r.1)) r.2) {h : Hp} (e : R_73_7 h = some r) : G X d 73 7 [some (.ref 21), none, none] [] h := by
  unfold R_73_7 at e
  obtain ⟨x, h2, e1, e2⟩ := bndI_s e
  refine k_73_7 (by omega) (t_67 e1) ?_
  rintro _ _ ⟨rfl, rfl⟩
  exact r_73_11 hd hq e2
noncomputable def R_73_4 (s0 : Int32) (h : Hp) : Option (Int32 × Hp) := if s0 = 0 then R_73_7 h else R_73_12 h
theorem r_73_4 {X : GX} {d : Nat} {r : Int32 × Hp} (hd : 2 ≤ d) (hq : RtX X (some (.int r.1)) r.2) {h : Hp} {s0 : Int32} (e : R_73_4 s0 h = some r) : G X d 73 4 [some (.ref 21), none, none] [.int s0] h := by
  unfold R_73_4 at e
  refine k_73_4 (fun c => ?_) (fun c => ?_)
  · rw [if_neg c] at e; exact r_73_12 hd hq e
  · rw [if_pos c] at e; exact r_73_7 hd hq e
noncomputable def R_73_0 (h : Hp) : Option (Int32 × Hp) := bndI (S_74 h) (R_73_4)
theorem r_73_0 {X : GX} {d : Nat} {r : Int32 × Hp} (hd : 2 ≤ d) (hq : RtX X (some (.int r.1)) r.2) {h : Hp} (e : R_73_0 h = some r) : G X d 73 0 [some (.ref 21), none, none] [] h := by
  unfold R_73_0 at e
  obtain ⟨x, h2, e1, e2⟩ := bndI_s e
  refine k_73_0 (by omega) (t_74 e1) ?_
  rintro _ _ ⟨rfl, rfl⟩
  exact r_73_4 hd hq e2
noncomputable def S_73 (h : Hp) : Option (Int32 × Hp) := R_73_0 h
set_option maxRecDepth 100000 in
theorem t_73 {h : Hp} {r : Int32 × Hp} (e : S_73 h = some r) : CI 2 73 [.ref 21] h (fun x g => x = r.1 ∧ g = r.2) := by
  refine C.of mo_73 (Nat.le_of_ble_eq_true rfl) (fun X hq => ?_)
  exact r_73_0 (Nat.le_refl _) (hq _ _ ⟨_, rfl, rfl, rfl⟩) e
/-! 69 PlayedTruth$RuleReader.readCondition(I)Z -/
noncomputable def R_69_57 (c_69 : Int32 → Hp → Option (Int32 × Hp)) (c_70 : Int32 → Hp → Option (Int32 × Hp)) (c_71 : Int32 → Hp → Option (Int32 × Hp)) (c_72 : Int32 → Hp → Option (Int32 × Hp)) (h : Hp) : Option (Int32 × Hp) := some (1, h)
theorem r_69_57 {X : GX} {d : Nat} {r : Int32 × Hp} {c_69 : Int32 → Hp → Option (Int32 × Hp)} {c_70 : Int32 → Hp → Option (Int32 × Hp)} {c_71 : Int32 → Hp → Option (Int32 × Hp)} {c_72 : Int32 → Hp → Option (Int32 × Hp)} {dg : Nat} (hd : 3 ≤ d) (hgd : dg < d) (hc_69 : ∀ {v1 : Int32} {h : Hp} {r : Int32 × Hp}, c_69 v1 h = some r → CI dg 69 [.ref 21, .int v1] h (fun x g => x = r.1 ∧ g = r.2)) (hc_70 : ∀ {v1 : Int32} {h : Hp} {r : Int32 × Hp}, c_70 v1 h = some r → CI dg 70 [.ref 21, .int v1] h (fun x g => x = r.1 ∧ g = r.2)) (hc_71 : ∀ {v1 : Int32} {h : Hp} {r : Int32 × Hp}, c_71 v1 h = some r → CI dg 71 [.ref 21, .int v1] h (fun x g => x = r.1 ∧ g = r.2)) (hc_72 : ∀ {v1 : Int32} {h : Hp} {r : Int32 × Hp}, c_72 v1 h = some r → CI dg 72 [.ref 21, .int v1] h (fun x g => x = r.1 ∧ g = r.2)) (hq : RtX X (some (.int r.1)) r.2) {h : Hp} (e : R_69_57 c_69 c_70 c_71 c_72 h = some r) : G X d 69 57 [none, none, none] [] h := by
  unfold R_69_57 at e
  rw [← Option.some.inj e] at hq
  exact k_69_57 hq
noncomputable def R_69_51 (c_69 : Int32 → Hp → Option (Int32 × Hp)) (c_70 : Int32 → Hp → Option (Int32 × Hp)) (c_71 : Int32 → Hp → Option (Int32 × Hp)) (c_72 : Int32 → Hp → Option (Int32 × Hp)) (rec_12 : Int32 → Int32 → Hp → Option (Int32 × Hp)) (v1 : Int32) (v2 : Int32) (h : Hp) : Option (Int32 × Hp) := rec_12 v1 (v2 + 1) h
theorem r_69_51 {X : GX} {d : Nat} {r : Int32 × Hp} {c_69 : Int32 → Hp → Option (Int32 × Hp)} {c_70 : Int32 → Hp → Option (Int32 × Hp)} {c_71 : Int32 → Hp → Option (Int32 × Hp)} {c_72 : Int32 → Hp → Option (Int32 × Hp)} {dg : Nat} (hd : 3 ≤ d) (hgd : dg < d) (hc_69 : ∀ {v1 : Int32} {h : Hp} {r : Int32 × Hp}, c_69 v1 h = some r → CI dg 69 [.ref 21, .int v1] h (fun x g => x = r.1 ∧ g = r.2)) (hc_70 : ∀ {v1 : Int32} {h : Hp} {r : Int32 × Hp}, c_70 v1 h = some r → CI dg 70 [.ref 21, .int v1] h (fun x g => x = r.1 ∧ g = r.2)) (hc_71 : ∀ {v1 : Int32} {h : Hp} {r : Int32 × Hp}, c_71 v1 h = some r → CI dg 71 [.ref 21, .int v1] h (fun x g => x = r.1 ∧ g = r.2)) (hc_72 : ∀ {v1 : Int32} {h : Hp} {r : Int32 × Hp}, c_72 v1 h = some r → CI dg 72 [.ref 21, .int v1] h (fun x g => x = r.1 ∧ g = r.2)) (hq : RtX X (some (.int r.1)) r.2) {rec_12 : Int32 → Int32 → Hp → Option (Int32 × Hp)} (hr_12 : ∀ {v1 : Int32} {v2 : Int32} {h : Hp}, rec_12 v1 v2 h = some r → G X d 69 12 [some (.ref 21), some (.int v1), some (.int v2)] [] h) {h : Hp} {v1 : Int32} {v2 : Int32} (e : R_69_51 c_69 c_70 c_71 c_72 rec_12 v1 v2 h = some r) : G X d 69 51 [some (.ref 21), some (.int v1), some (.int v2)] [] h := by
  unfold R_69_51 at e
  exact k_69_51 (hr_12 e)
noncomputable def R_69_42 (c_69 : Int32 → Hp → Option (Int32 × Hp)) (c_70 : Int32 → Hp → Option (Int32 × Hp)) (c_71 : Int32 → Hp → Option (Int32 × Hp)) (c_72 : Int32 → Hp → Option (Int32 × Hp)) (rec_12 : Int32 → Int32 → Hp → Option (Int32 × Hp)) (v1 : Int32) (v2 : Int32) (h : Hp) : Option (Int32 × Hp) := bndV (S_76 12 h) (R_69_51 c_69 c_70 c_71 c_72 rec_12 v1 v2)
theorem r_69_42 {X : GX} {d : Nat} {r : Int32 × Hp} {c_69 : Int32 → Hp → Option (Int32 × Hp)} {c_70 : Int32 → Hp → Option (Int32 × Hp)} {c_71 : Int32 → Hp → Option (Int32 × Hp)} {c_72 : Int32 → Hp → Option (Int32 × Hp)} {dg : Nat} (hd : 3 ≤ d) (hgd : dg < d) (hc_69 : ∀ {v1 : Int32} {h : Hp} {r : Int32 × Hp}, c_69 v1 h = some r → CI dg 69 [.ref 21, .int v1] h (fun x g => x = r.1 ∧ g = r.2)) (hc_70 : ∀ {v1 : Int32} {h : Hp} {r : Int32 × Hp}, c_70 v1 h = some r → CI dg 70 [.ref 21, .int v1] h (fun x g => x = r.1 ∧ g = r.2)) (hc_71 : ∀ {v1 : Int32} {h : Hp} {r : Int32 × Hp}, c_71 v1 h = some r → CI dg 71 [.ref 21, .int v1] h (fun x g => x = r.1 ∧ g = r.2)) (hc_72 : ∀ {v1 : Int32} {h : Hp} {r : Int32 × Hp}, c_72 v1 h = some r → CI dg 72 [.ref 21, .int v1] h (fun x g => x = r.1 ∧ g = r.2)) (hq : RtX X (some (.int r.1)) r.2) {rec_12 : Int32 → Int32 → Hp → Option (Int32 × Hp)} (hr_12 : ∀ {v1 : Int32} {v2 : Int32} {h : Hp}, rec_12 v1 v2 h = some r → G X d 69 12 [some (.ref 21), some (.int v1), some (.int v2)] [] h) {h : Hp} {v1 : Int32} {v2 : Int32} (e : R_69_42 c_69 c_70 c_71 c_72 rec_12 v1 v2 h = some r) : G X d 69 42 [some (.ref 21), some (.int v1), some (.int v2)] [] h := by
  unfold R_69_42 at e
  obtain ⟨x, h2, e1, e2⟩ := bndV_s e
  refine k_69_42 (by omega) (t_76 e1) ?_
  rintro _ rfl
  exact r_69_51 hd hgd hc_69 hc_70 hc_71 hc_72 hq hr_12 e2
noncomputable def R_69_40 (c_69 : Int32 → Hp → Option (Int32 × Hp)) (c_70 : Int32 → Hp → Option (Int32 × Hp)) (c_71 : Int32 → Hp → Option (Int32 × Hp)) (c_72 : Int32 → Hp → Option (Int32 × Hp)) (h : Hp) : Option (Int32 × Hp) := some (0, h)
theorem r_69_40 {X : GX} {d : Nat} {r : Int32 × Hp} {c_69 : Int32 → Hp → Option (Int32 × Hp)} {c_70 : Int32 → Hp → Option (Int32 × Hp)} {c_71 : Int32 → Hp → Option (Int32 × Hp)} {c_72 : Int32 → Hp → Option (Int32 × Hp)} {dg : Nat} (hd : 3 ≤ d) (hgd : dg < d) (hc_69 : ∀ {v1 : Int32} {h : Hp} {r : Int32 × Hp}, c_69 v1 h = some r → CI dg 69 [.ref 21, .int v1] h (fun x g => x = r.1 ∧ g = r.2)) (hc_70 : ∀ {v1 : Int32} {h : Hp} {r : Int32 × Hp}, c_70 v1 h = some r → CI dg 70 [.ref 21, .int v1] h (fun x g => x = r.1 ∧ g = r.2)) (hc_71 : ∀ {v1 : Int32} {h : Hp} {r : Int32 × Hp}, c_71 v1 h = some r → CI dg 71 [.ref 21, .int v1] h (fun x g => x = r.1 ∧ g = r.2)) (hc_72 : ∀ {v1 : Int32} {h : Hp} {r : Int32 × Hp}, c_72 v1 h = some r → CI dg 72 [.ref 21, .int v1] h (fun x g => x = r.1 ∧ g = r.2)) (hq : RtX X (some (.int r.1)) r.2) {h : Hp} (e : R_69_40 c_69 c_70 c_71 c_72 h = some r) : G X d 69 40 [none, none, none] [] h := by
  unfold R_69_40 at e
  rw [← Option.some.inj e] at hq
  exact k_69_40 hq
noncomputable def R_69_37 (c_69 : Int32 → Hp → Option (Int32 × Hp)) (c_70 : Int32 → Hp → Option (Int32 × Hp)) (c_71 : Int32 → Hp → Option (Int32 × Hp)) (c_72 : Int32 → Hp → Option (Int32 × Hp)) (rec_12 : Int32 → Int32 → Hp → Option (Int32 × Hp)) (v1 : Int32) (v2 : Int32) (s0 : Int32) (h : Hp) : Option (Int32 × Hp) := if s0 = 0 then R_69_40 c_69 c_70 c_71 c_72 h else R_69_42 c_69 c_70 c_71 c_72 rec_12 v1 v2 h
theorem r_69_37 {X : GX} {d : Nat} {r : Int32 × Hp} {c_69 : Int32 → Hp → Option (Int32 × Hp)} {c_70 : Int32 → Hp → Option (Int32 × Hp)} {c_71 : Int32 → Hp → Option (Int32 × Hp)} {c_72 : Int32 → Hp → Option (Int32 × Hp)} {dg : Nat} (hd : 3 ≤ d) (hgd : dg < d) (hc_69 : ∀ {v1 : Int32} {h : Hp} {r : Int32 × Hp}, c_69 v1 h = some r → CI dg 69 [.ref 21, .int v1] h (fun x g => x = r.1 ∧ g = r.2)) (hc_70 : ∀ {v1 : Int32} {h : Hp} {r : Int32 × Hp}, c_70 v1 h = some r → CI dg 70 [.ref 21, .int v1] h (fun x g => x = r.1 ∧ g = r.2)) (hc_71 : ∀ {v1 : Int32} {h : Hp} {r : Int32 × Hp}, c_71 v1 h = some r → CI dg 71 [.ref 21, .int v1] h (fun x g => x = r.1 ∧ g = r.2)) (hc_72 : ∀ {v1 : Int32} {h : Hp} {r : Int32 × Hp}, c_72 v1 h = some r → CI dg 72 [.ref 21, .int v1] h (fun x g => x = r.1 ∧ g = r.2)) (hq : RtX X (some (.int r.1)) r.2) {rec_12 : Int32 → Int32 → Hp → Option (Int32 × Hp)} (hr_12 : ∀ {v1 : Int32} {v2 : Int32} {h : Hp}, rec_12 v1 v2 h = some r → G X d 69 12 [some (.ref 21), some (.int v1), some (.int v2)] [] h) {h : Hp} {v1 : Int32} {v2 : Int32} {s0 : Int32} (e : R_69_37 c_69 c_70 c_71 c_72 rec_12 v1 v2 s0 h = some r) : G X d 69 37 [some (.ref 21), some (.int v1), some (.int v2)] [.int s0] h := by
  unfold R_69_37 at e
  refine k_69_37 (fun c => ?_) (fun c => ?_)
  · rw [if_neg c] at e; exact r_69_42 hd hgd hc_69 hc_70 hc_71 hc_72 hq hr_12 e
  · rw [if_pos c] at e; exact r_69_40 hd hgd hc_69 hc_70 hc_71 hc_72 hq e
noncomputable def R_69_32 (c_69 : Int32 → Hp → Option (Int32 × Hp)) (c_70 : Int32 → Hp → Option (Int32 × Hp)) (c_71 : Int32 → Hp → Option (Int32 × Hp)) (c_72 : Int32 → Hp → Option (Int32 × Hp)) (rec_12 : Int32 → Int32 → Hp → Option (Int32 × Hp)) (v1 : Int32) (v2 : Int32) (h : Hp) : Option (Int32 × Hp) := bndI (c_70 v1 h) (R_69_37 c_69 c_70 c_71 c_72 rec_12 v1 v2)
theorem r_69_32 {X : GX} {d : Nat} {r : Int32 × Hp} {c_69 : Int32 → Hp → Option (Int32 × Hp)} {c_70 : Int32 → Hp → Option (Int32 × Hp)} {c_71 : Int32 → Hp → Option (Int32 × Hp)} {c_72 : Int32 → Hp → Option (Int32 × Hp)} {dg : Nat} (hd : 3 ≤ d) (hgd : dg < d) (hc_69 : ∀ {v1 : Int32} {h : Hp} {r : Int32 × Hp}, c_69 v1 h = some r → CI dg 69 [.ref 21, .int v1] h (fun x g => x = r.1 ∧ g = r.2)) (hc_70 : ∀ {v1 : Int32} {h : Hp} {r : Int32 × Hp}, c_70 v1 h = some r → CI dg 70 [.ref 21, .int v1] h (fun x g => x = r.1 ∧ g = r.2)) (hc_71 : ∀ {v1 : Int32} {h : Hp} {r : Int32 × Hp}, c_71 v1 h = some r → CI dg 71 [.ref 21, .int v1] h (fun x g => x = r.1 ∧ g = r.2)) (hc_72 : ∀ {v1 : Int32} {h : Hp} {r : Int32 × Hp}, c_72 v1 h = some r → CI dg 72 [.ref 21, .int v1] h (fun x g => x = r.1 ∧ g = r.2)) (hq : RtX X (some (.int r.1)) r.2) {rec_12 : Int32 → Int32 → Hp → Option (Int32 × Hp)} (hr_12 : ∀ {v1 : Int32} {v2 : Int32} {h : Hp}, rec_12 v1 v2 h = some r → G X d 69 12 [some (.ref 21), some (.int v1), some (.int v2)] [] h) {h : Hp} {v1 : Int32} {v2 : Int32} (e : R_69_32 c_69 c_70 c_71 c_72 rec_12 v1 v2 h = some r) : G X d 69 32 [some (.ref 21), some (.int v1), some (.int v2)] [] h := by
  unfold R_69_32 at e
  obtain ⟨x, h2, e1, e2⟩ := bndI_s e
  refine k_69_32 hgd (hc_70 e1) ?_
  rintro _ _ ⟨rfl, rfl⟩
  exact r_69_37 hd hgd hc_69 hc_70 hc_71 hc_72 hq hr_12 e2
noncomputable def R_69_28 (c_69 : Int32 → Hp → Option (Int32 × Hp)) (c_70 : Int32 → Hp → Option (Int32 × Hp)) (c_71 : Int32 → Hp → Option (Int32 × Hp)) (c_72 : Int32 → Hp → Option (Int32 × Hp)) (rec_12 : Int32 → Int32 → Hp → Option (Int32 × Hp)) (v1 : Int32) (v2 : Int32) (h : Hp) : Option (Int32 × Hp) := bndV (S_68 h) (R_69_32 c_69 c_70 c_71 c_72 rec_12 v1 v2)
theorem r_69_28 {X : GX} {d : Nat} {r : Int32 × Hp} {c_69 : Int32 → Hp → Option (Int32 × Hp)} {c_70 : Int32 → Hp → Option (Int32 × Hp)} {c_71 : Int32 → Hp → Option (Int32 × Hp)} {c_72 : Int32 → Hp → Option (Int32 × Hp)} {dg : Nat} (hd : 3 ≤ d) (hgd : dg < d) (hc_69 : ∀ {v1 : Int32} {h : Hp} {r : Int32 × Hp}, c_69 v1 h = some r → CI dg 69 [.ref 21, .int v1] h (fun x g => x = r.1 ∧ g = r.2)) (hc_70 : ∀ {v1 : Int32} {h : Hp} {r : Int32 × Hp}, c_70 v1 h = some r → CI dg 70 [.ref 21, .int v1] h (fun x g => x = r.1 ∧ g = r.2)) (hc_71 : ∀ {v1 : Int32} {h : Hp} {r : Int32 × Hp}, c_71 v1 h = some r → CI dg 71 [.ref 21, .int v1] h (fun x g => x = r.1 ∧ g = r.2)) (hc_72 : ∀ {v1 : Int32} {h : Hp} {r : Int32 × Hp}, c_72 v1 h = some r → CI dg 72 [.ref 21, .int v1] h (fun x g => x = r.1 ∧ g = r.2)) (hq : RtX X (some (.int r.1)) r.2) {rec_12 : Int32 → Int32 → Hp → Option (Int32 × Hp)} (hr_12 : ∀ {v1 : Int32} {v2 : Int32} {h : Hp}, rec_12 v1 v2 h = some r → G X d 69 12 [some (.ref 21), some (.int v1), some (.int v2)] [] h) {h : Hp} {v1 : Int32} {v2 : Int32} (e : R_69_28 c_69 c_70 c_71 c_72 rec_12 v1 v2 h = some r) : G X d 69 28 [some (.ref 21), some (.int v1), some (.int v2)] [] h := by
  unfold R_69_28 at e
  obtain ⟨x, h2, e1, e2⟩ := bndV_s e
  refine k_69_28 (by omega) (t_68 e1) ?_
  rintro _ rfl
  exact r_69_32 hd hgd hc_69 hc_70 hc_71 hc_72 hq hr_12 e2
noncomputable def R_69_19 (c_69 : Int32 → Hp → Option (Int32 × Hp)) (c_70 : Int32 → Hp → Option (Int32 × Hp)) (c_71 : Int32 → Hp → Option (Int32 × Hp)) (c_72 : Int32 → Hp → Option (Int32 × Hp)) (rec_12 : Int32 → Int32 → Hp → Option (Int32 × Hp)) (v1 : Int32) (v2 : Int32) (h : Hp) : Option (Int32 × Hp) := if (h 21 8) = 12 then R_69_28 c_69 c_70 c_71 c_72 rec_12 v1 v2 h else R_69_57 c_69 c_70 c_71 c_72 h
theorem r_69_19 {X : GX} {d : Nat} {r : Int32 × Hp} {c_69 : Int32 → Hp → Option (Int32 × Hp)} {c_70 : Int32 → Hp → Option (Int32 × Hp)} {c_71 : Int32 → Hp → Option (Int32 × Hp)} {c_72 : Int32 → Hp → Option (Int32 × Hp)} {dg : Nat} (hd : 3 ≤ d) (hgd : dg < d) (hc_69 : ∀ {v1 : Int32} {h : Hp} {r : Int32 × Hp}, c_69 v1 h = some r → CI dg 69 [.ref 21, .int v1] h (fun x g => x = r.1 ∧ g = r.2)) (hc_70 : ∀ {v1 : Int32} {h : Hp} {r : Int32 × Hp}, c_70 v1 h = some r → CI dg 70 [.ref 21, .int v1] h (fun x g => x = r.1 ∧ g = r.2)) (hc_71 : ∀ {v1 : Int32} {h : Hp} {r : Int32 × Hp}, c_71 v1 h = some r → CI dg 71 [.ref 21, .int v1] h (fun x g => x = r.1 ∧ g = r.2)) (hc_72 : ∀ {v1 : Int32} {h : Hp} {r : Int32 × Hp}, c_72 v1 h = some r → CI dg 72 [.ref 21, .int v1] h (fun x g => x = r.1 ∧ g = r.2)) (hq : RtX X (some (.int r.1)) r.2) {rec_12 : Int32 → Int32 → Hp → Option (Int32 × Hp)} (hr_12 : ∀ {v1 : Int32} {v2 : Int32} {h : Hp}, rec_12 v1 v2 h = some r → G X d 69 12 [some (.ref 21), some (.int v1), some (.int v2)] [] h) {h : Hp} {v1 : Int32} {v2 : Int32} (e : R_69_19 c_69 c_70 c_71 c_72 rec_12 v1 v2 h = some r) : G X d 69 19 [some (.ref 21), some (.int v1), some (.int v2)] [] h := by
  unfold R_69_19 at e
  refine k_69_19 (fun c => ?_) (fun c => ?_)
  · rw [if_neg c] at e; exact r_69_57 hd hgd hc_69 hc_70 hc_71 hc_72 hq e
  · rw [if_pos c] at e; exact r_69_28 hd hgd hc_69 hc_70 hc_71 hc_72 hq hr_12 e
noncomputable def R_69_12 (c_69 : Int32 → Hp → Option (Int32 × Hp)) (c_70 : Int32 → Hp → Option (Int32 × Hp)) (c_71 : Int32 → Hp → Option (Int32 × Hp)) (c_72 : Int32 → Hp → Option (Int32 × Hp)) (rec_12 : Int32 → Int32 → Hp → Option (Int32 × Hp)) (v1 : Int32) (v2 : Int32) (h : Hp) : Option (Int32 × Hp) := if 200 ≤ v2 then R_69_57 c_69 c_70 c_71 c_72 h else R_69_19 c_69 c_70 c_71 c_72 rec_12 v1 v2 h
theorem r_69_12 {X : GX} {d : Nat} {r : Int32 × Hp} {c_69 : Int32 → Hp → Option (Int32 × Hp)} {c_70 : Int32 → Hp → Option (Int32 × Hp)} {c_71 : Int32 → Hp → Option (Int32 × Hp)} {c_72 : Int32 → Hp → Option (Int32 × Hp)} {dg : Nat} (hd : 3 ≤ d) (hgd : dg < d) (hc_69 : ∀ {v1 : Int32} {h : Hp} {r : Int32 × Hp}, c_69 v1 h = some r → CI dg 69 [.ref 21, .int v1] h (fun x g => x = r.1 ∧ g = r.2)) (hc_70 : ∀ {v1 : Int32} {h : Hp} {r : Int32 × Hp}, c_70 v1 h = some r → CI dg 70 [.ref 21, .int v1] h (fun x g => x = r.1 ∧ g = r.2)) (hc_71 : ∀ {v1 : Int32} {h : Hp} {r : Int32 × Hp}, c_71 v1 h = some r → CI dg 71 [.ref 21, .int v1] h (fun x g => x = r.1 ∧ g = r.2)) (hc_72 : ∀ {v1 : Int32} {h : Hp} {r : Int32 × Hp}, c_72 v1 h = some r → CI dg 72 [.ref 21, .int v1] h (fun x g => x = r.1 ∧ g = r.2)) (hq : RtX X (some (.int r.1)) r.2) {rec_12 : Int32 → Int32 → Hp → Option (Int32 × Hp)} (hr_12 : ∀ {v1 : Int32} {v2 : Int32} {h : Hp}, rec_12 v1 v2 h = some r → G X d 69 12 [some (.ref 21), some (.int v1), some (.int v2)] [] h) {h : Hp} {v1 : Int32} {v2 : Int32} (e : R_69_12 c_69 c_70 c_71 c_72 rec_12 v1 v2 h = some r) : G X d 69 12 [some (.ref 21), some (.int v1), some (.int v2)] [] h := by
  unfold R_69_12 at e
  refine k_69_12 (fun c => ?_) (fun c => ?_)
  · rw [if_pos c] at e; exact r_69_57 hd hgd hc_69 hc_70 hc_71 hc_72 hq e
  · rw [if_neg c] at e; exact r_69_19 hd hgd hc_69 hc_70 hc_71 hc_72 hq hr_12 e
noncomputable def H_69_12 (c_69 : Int32 → Hp → Option (Int32 × Hp)) (c_70 : Int32 → Hp → Option (Int32 × Hp)) (c_71 : Int32 → Hp → Option (Int32 × Hp)) (c_72 : Int32 → Hp → Option (Int32 × Hp)) : Nat → Int32 → Int32 → Hp → Option (Int32 × Hp)
  | 0, _, _, _ => none
  | n + 1, v1, v2, h => R_69_12 c_69 c_70 c_71 c_72 (H_69_12 c_69 c_70 c_71 c_72 n) v1 v2 h
theorem h_69_12 {X : GX} {d : Nat} {r : Int32 × Hp} {c_69 : Int32 → Hp → Option (Int32 × Hp)} {c_70 : Int32 → Hp → Option (Int32 × Hp)} {c_71 : Int32 → Hp → Option (Int32 × Hp)} {c_72 : Int32 → Hp → Option (Int32 × Hp)} {dg : Nat} (hd : 3 ≤ d) (hgd : dg < d) (hc_69 : ∀ {v1 : Int32} {h : Hp} {r : Int32 × Hp}, c_69 v1 h = some r → CI dg 69 [.ref 21, .int v1] h (fun x g => x = r.1 ∧ g = r.2)) (hc_70 : ∀ {v1 : Int32} {h : Hp} {r : Int32 × Hp}, c_70 v1 h = some r → CI dg 70 [.ref 21, .int v1] h (fun x g => x = r.1 ∧ g = r.2)) (hc_71 : ∀ {v1 : Int32} {h : Hp} {r : Int32 × Hp}, c_71 v1 h = some r → CI dg 71 [.ref 21, .int v1] h (fun x g => x = r.1 ∧ g = r.2)) (hc_72 : ∀ {v1 : Int32} {h : Hp} {r : Int32 × Hp}, c_72 v1 h = some r → CI dg 72 [.ref 21, .int v1] h (fun x g => x = r.1 ∧ g = r.2)) (hq : RtX X (some (.int r.1)) r.2) {n : Nat} {h : Hp} {v1 : Int32} {v2 : Int32} (e : H_69_12 c_69 c_70 c_71 c_72 n v1 v2 h = some r) : G X d 69 12 [some (.ref 21), some (.int v1), some (.int v2)] [] h := by
  induction n generalizing v1 v2 h with
  | zero => cases e
  | succ n ih => exact r_69_12 hd hgd hc_69 hc_70 hc_71 hc_72 hq (fun e => ih e) e
noncomputable def R_69_10 (c_69 : Int32 → Hp → Option (Int32 × Hp)) (c_70 : Int32 → Hp → Option (Int32 × Hp)) (c_71 : Int32 → Hp → Option (Int32 × Hp)) (c_72 : Int32 → Hp → Option (Int32 × Hp)) (v1 : Int32) (h : Hp) : Option (Int32 × Hp) := H_69_12 c_69 c_70 c_71 c_72 fuL v1 0 h
theorem r_69_10 {X : GX} {d : Nat} {r : Int32 × Hp} {c_69 : Int32 → Hp → Option (Int32 × Hp)} {c_70 : Int32 → Hp → Option (Int32 × Hp)} {c_71 : Int32 → Hp → Option (Int32 × Hp)} {c_72 : Int32 → Hp → Option (Int32 × Hp)} {dg : Nat} (hd : 3 ≤ d) (hgd : dg < d) (hc_69 : ∀ {v1 : Int32} {h : Hp} {r : Int32 × Hp}, c_69 v1 h = some r → CI dg 69 [.ref 21, .int v1] h (fun x g => x = r.1 ∧ g = r.2)) (hc_70 : ∀ {v1 : Int32} {h : Hp} {r : Int32 × Hp}, c_70 v1 h = some r → CI dg 70 [.ref 21, .int v1] h (fun x g => x = r.1 ∧ g = r.2)) (hc_71 : ∀ {v1 : Int32} {h : Hp} {r : Int32 × Hp}, c_71 v1 h = some r → CI dg 71 [.ref 21, .int v1] h (fun x g => x = r.1 ∧ g = r.2)) (hc_72 : ∀ {v1 : Int32} {h : Hp} {r : Int32 × Hp}, c_72 v1 h = some r → CI dg 72 [.ref 21, .int v1] h (fun x g => x = r.1 ∧ g = r.2)) (hq : RtX X (some (.int r.1)) r.2) {h : Hp} {v1 : Int32} (e : R_69_10 c_69 c_70 c_71 c_72 v1 h = some r) : G X d 69 10 [some (.ref 21), some (.int v1), none] [] h := by
  unfold R_69_10 at e
  exact k_69_10 (h_69_12 hd hgd hc_69 hc_70 hc_71 hc_72 hq e)
noncomputable def R_69_8 (c_69 : Int32 → Hp → Option (Int32 × Hp)) (c_70 : Int32 → Hp → Option (Int32 × Hp)) (c_71 : Int32 → Hp → Option (Int32 × Hp)) (c_72 : Int32 → Hp → Option (Int32 × Hp)) (h : Hp) : Option (Int32 × Hp) := some (0, h)
theorem r_69_8 {X : GX} {d : Nat} {r : Int32 × Hp} {c_69 : Int32 → Hp → Option (Int32 × Hp)} {c_70 : Int32 → Hp → Option (Int32 × Hp)} {c_71 : Int32 → Hp → Option (Int32 × Hp)} {c_72 : Int32 → Hp → Option (Int32 × Hp)} {dg : Nat} (hd : 3 ≤ d) (hgd : dg < d) (hc_69 : ∀ {v1 : Int32} {h : Hp} {r : Int32 × Hp}, c_69 v1 h = some r → CI dg 69 [.ref 21, .int v1] h (fun x g => x = r.1 ∧ g = r.2)) (hc_70 : ∀ {v1 : Int32} {h : Hp} {r : Int32 × Hp}, c_70 v1 h = some r → CI dg 70 [.ref 21, .int v1] h (fun x g => x = r.1 ∧ g = r.2)) (hc_71 : ∀ {v1 : Int32} {h : Hp} {r : Int32 × Hp}, c_71 v1 h = some r → CI dg 71 [.ref 21, .int v1] h (fun x g => x = r.1 ∧ g = r.2)) (hc_72 : ∀ {v1 : Int32} {h : Hp} {r : Int32 × Hp}, c_72 v1 h = some r → CI dg 72 [.ref 21, .int v1] h (fun x g => x = r.1 ∧ g = r.2)) (hq : RtX X (some (.int r.1)) r.2) {h : Hp} (e : R_69_8 c_69 c_70 c_71 c_72 h = some r) : G X d 69 8 [none, none, none] [] h := by
  unfold R_69_8 at e
  rw [← Option.some.inj e] at hq
  exact k_69_8 hq
noncomputable def R_69_5 (c_69 : Int32 → Hp → Option (Int32 × Hp)) (c_70 : Int32 → Hp → Option (Int32 × Hp)) (c_71 : Int32 → Hp → Option (Int32 × Hp)) (c_72 : Int32 → Hp → Option (Int32 × Hp)) (v1 : Int32) (s0 : Int32) (h : Hp) : Option (Int32 × Hp) := if s0 = 0 then R_69_8 c_69 c_70 c_71 c_72 h else R_69_10 c_69 c_70 c_71 c_72 v1 h
theorem r_69_5 {X : GX} {d : Nat} {r : Int32 × Hp} {c_69 : Int32 → Hp → Option (Int32 × Hp)} {c_70 : Int32 → Hp → Option (Int32 × Hp)} {c_71 : Int32 → Hp → Option (Int32 × Hp)} {c_72 : Int32 → Hp → Option (Int32 × Hp)} {dg : Nat} (hd : 3 ≤ d) (hgd : dg < d) (hc_69 : ∀ {v1 : Int32} {h : Hp} {r : Int32 × Hp}, c_69 v1 h = some r → CI dg 69 [.ref 21, .int v1] h (fun x g => x = r.1 ∧ g = r.2)) (hc_70 : ∀ {v1 : Int32} {h : Hp} {r : Int32 × Hp}, c_70 v1 h = some r → CI dg 70 [.ref 21, .int v1] h (fun x g => x = r.1 ∧ g = r.2)) (hc_71 : ∀ {v1 : Int32} {h : Hp} {r : Int32 × Hp}, c_71 v1 h = some r → CI dg 71 [.ref 21, .int v1] h (fun x g => x = r.1 ∧ g = r.2)) (hc_72 : ∀ {v1 : Int32} {h : Hp} {r : Int32 × Hp}, c_72 v1 h = some r → CI dg 72 [.ref 21, .int v1] h (fun x g => x = r.1 ∧ g = r.2)) (hq : RtX X (some (.int r.1)) r.2) {h : Hp} {v1 : Int32} {s0 : Int32} (e : R_69_5 c_69 c_70 c_71 c_72 v1 s0 h = some r) : G X d 69 5 [some (.ref 21), some (.int v1), none] [.int s0] h := by
  unfold R_69_5 at e
  refine k_69_5 (fun c => ?_) (fun c => ?_)
  · rw [if_neg c] at e; exact r_69_10 hd hgd hc_69 hc_70 hc_71 hc_72 hq e
  · rw [if_pos c] at e; exact r_69_8 hd hgd hc_69 hc_70 hc_71 hc_72 hq e
noncomputable def R_69_0 (c_69 : Int32 → Hp → Option (Int32 × Hp)) (c_70 : Int32 → Hp → Option (Int32 × Hp)) (c_71 : Int32 → Hp → Option (Int32 × Hp)) (c_72 : Int32 → Hp → Option (Int32 × Hp)) (v1 : Int32) (h : Hp) : Option (Int32 × Hp) := bndI (c_70 v1 h) (R_69_5 c_69 c_70 c_71 c_72 v1)
theorem r_69_0 {X : GX} {d : Nat} {r : Int32 × Hp} {c_69 : Int32 → Hp → Option (Int32 × Hp)} {c_70 : Int32 → Hp → Option (Int32 × Hp)} {c_71 : Int32 → Hp → Option (Int32 × Hp)} {c_72 : Int32 → Hp → Option (Int32 × Hp)} {dg : Nat} (hd : 3 ≤ d) (hgd : dg < d) (hc_69 : ∀ {v1 : Int32} {h : Hp} {r : Int32 × Hp}, c_69 v1 h = some r → CI dg 69 [.ref 21, .int v1] h (fun x g => x = r.1 ∧ g = r.2)) (hc_70 : ∀ {v1 : Int32} {h : Hp} {r : Int32 × Hp}, c_70 v1 h = some r → CI dg 70 [.ref 21, .int v1] h (fun x g => x = r.1 ∧ g = r.2)) (hc_71 : ∀ {v1 : Int32} {h : Hp} {r : Int32 × Hp}, c_71 v1 h = some r → CI dg 71 [.ref 21, .int v1] h (fun x g => x = r.1 ∧ g = r.2)) (hc_72 : ∀ {v1 : Int32} {h : Hp} {r : Int32 × Hp}, c_72 v1 h = some r → CI dg 72 [.ref 21, .int v1] h (fun x g => x = r.1 ∧ g = r.2)) (hq : RtX X (some (.int r.1)) r.2) {h : Hp} {v1 : Int32} (e : R_69_0 c_69 c_70 c_71 c_72 v1 h = some r) : G X d 69 0 [some (.ref 21), some (.int v1), none] [] h := by
  unfold R_69_0 at e
  obtain ⟨x, h2, e1, e2⟩ := bndI_s e
  refine k_69_0 hgd (hc_70 e1) ?_
  rintro _ _ ⟨rfl, rfl⟩
  exact r_69_5 hd hgd hc_69 hc_70 hc_71 hc_72 hq e2
/-! 70 PlayedTruth$RuleReader.readAll(I)Z -/
noncomputable def R_70_57 (c_69 : Int32 → Hp → Option (Int32 × Hp)) (c_70 : Int32 → Hp → Option (Int32 × Hp)) (c_71 : Int32 → Hp → Option (Int32 × Hp)) (c_72 : Int32 → Hp → Option (Int32 × Hp)) (h : Hp) : Option (Int32 × Hp) := some (1, h)
theorem r_70_57 {X : GX} {d : Nat} {r : Int32 × Hp} {c_69 : Int32 → Hp → Option (Int32 × Hp)} {c_70 : Int32 → Hp → Option (Int32 × Hp)} {c_71 : Int32 → Hp → Option (Int32 × Hp)} {c_72 : Int32 → Hp → Option (Int32 × Hp)} {dg : Nat} (hd : 3 ≤ d) (hgd : dg < d) (hc_69 : ∀ {v1 : Int32} {h : Hp} {r : Int32 × Hp}, c_69 v1 h = some r → CI dg 69 [.ref 21, .int v1] h (fun x g => x = r.1 ∧ g = r.2)) (hc_70 : ∀ {v1 : Int32} {h : Hp} {r : Int32 × Hp}, c_70 v1 h = some r → CI dg 70 [.ref 21, .int v1] h (fun x g => x = r.1 ∧ g = r.2)) (hc_71 : ∀ {v1 : Int32} {h : Hp} {r : Int32 × Hp}, c_71 v1 h = some r → CI dg 71 [.ref 21, .int v1] h (fun x g => x = r.1 ∧ g = r.2)) (hc_72 : ∀ {v1 : Int32} {h : Hp} {r : Int32 × Hp}, c_72 v1 h = some r → CI dg 72 [.ref 21, .int v1] h (fun x g => x = r.1 ∧ g = r.2)) (hq : RtX X (some (.int r.1)) r.2) {h : Hp} (e : R_70_57 c_69 c_70 c_71 c_72 h = some r) : G X d 70 57 [none, none, none] [] h := by
  unfold R_70_57 at e
  rw [← Option.some.inj e] at hq
  exact k_70_57 hq
noncomputable def R_70_51 (c_69 : Int32 → Hp → Option (Int32 × Hp)) (c_70 : Int32 → Hp → Option (Int32 × Hp)) (c_71 : Int32 → Hp → Option (Int32 × Hp)) (c_72 : Int32 → Hp → Option (Int32 × Hp)) (rec_12 : Int32 → Int32 → Hp → Option (Int32 × Hp)) (v1 : Int32) (v2 : Int32) (h : Hp) : Option (Int32 × Hp) := rec_12 v1 (v2 + 1) h
theorem r_70_51 {X : GX} {d : Nat} {r : Int32 × Hp} {c_69 : Int32 → Hp → Option (Int32 × Hp)} {c_70 : Int32 → Hp → Option (Int32 × Hp)} {c_71 : Int32 → Hp → Option (Int32 × Hp)} {c_72 : Int32 → Hp → Option (Int32 × Hp)} {dg : Nat} (hd : 3 ≤ d) (hgd : dg < d) (hc_69 : ∀ {v1 : Int32} {h : Hp} {r : Int32 × Hp}, c_69 v1 h = some r → CI dg 69 [.ref 21, .int v1] h (fun x g => x = r.1 ∧ g = r.2)) (hc_70 : ∀ {v1 : Int32} {h : Hp} {r : Int32 × Hp}, c_70 v1 h = some r → CI dg 70 [.ref 21, .int v1] h (fun x g => x = r.1 ∧ g = r.2)) (hc_71 : ∀ {v1 : Int32} {h : Hp} {r : Int32 × Hp}, c_71 v1 h = some r → CI dg 71 [.ref 21, .int v1] h (fun x g => x = r.1 ∧ g = r.2)) (hc_72 : ∀ {v1 : Int32} {h : Hp} {r : Int32 × Hp}, c_72 v1 h = some r → CI dg 72 [.ref 21, .int v1] h (fun x g => x = r.1 ∧ g = r.2)) (hq : RtX X (some (.int r.1)) r.2) {rec_12 : Int32 → Int32 → Hp → Option (Int32 × Hp)} (hr_12 : ∀ {v1 : Int32} {v2 : Int32} {h : Hp}, rec_12 v1 v2 h = some r → G X d 70 12 [some (.ref 21), some (.int v1), some (.int v2)] [] h) {h : Hp} {v1 : Int32} {v2 : Int32} (e : R_70_51 c_69 c_70 c_71 c_72 rec_12 v1 v2 h = some r) : G X d 70 51 [some (.ref 21), some (.int v1), some (.int v2)] [] h := by
  unfold R_70_51 at e
  exact k_70_51 (hr_12 e)
noncomputable def R_70_42 (c_69 : Int32 → Hp → Option (Int32 × Hp)) (c_70 : Int32 → Hp → Option (Int32 × Hp)) (c_71 : Int32 → Hp → Option (Int32 × Hp)) (c_72 : Int32 → Hp → Option (Int32 × Hp)) (rec_12 : Int32 → Int32 → Hp → Option (Int32 × Hp)) (v1 : Int32) (v2 : Int32) (h : Hp) : Option (Int32 × Hp) := bndV (S_76 11 h) (R_70_51 c_69 c_70 c_71 c_72 rec_12 v1 v2)
theorem r_70_42 {X : GX} {d : Nat} {r : Int32 × Hp} {c_69 : Int32 → Hp → Option (Int32 × Hp)} {c_70 : Int32 → Hp → Option (Int32 × Hp)} {c_71 : Int32 → Hp → Option (Int32 × Hp)} {c_72 : Int32 → Hp → Option (Int32 × Hp)} {dg : Nat} (hd : 3 ≤ d) (hgd : dg < d) (hc_69 : ∀ {v1 : Int32} {h : Hp} {r : Int32 × Hp}, c_69 v1 h = some r → CI dg 69 [.ref 21, .int v1] h (fun x g => x = r.1 ∧ g = r.2)) (hc_70 : ∀ {v1 : Int32} {h : Hp} {r : Int32 × Hp}, c_70 v1 h = some r → CI dg 70 [.ref 21, .int v1] h (fun x g => x = r.1 ∧ g = r.2)) (hc_71 : ∀ {v1 : Int32} {h : Hp} {r : Int32 × Hp}, c_71 v1 h = some r → CI dg 71 [.ref 21, .int v1] h (fun x g => x = r.1 ∧ g = r.2)) (hc_72 : ∀ {v1 : Int32} {h : Hp} {r : Int32 × Hp}, c_72 v1 h = some r → CI dg 72 [.ref 21, .int v1] h (fun x g => x = r.1 ∧ g = r.2)) (hq : RtX X (some (.int r.1)) r.2) {rec_12 : Int32 → Int32 → Hp → Option (Int32 × Hp)} (hr_12 : ∀ {v1 : Int32} {v2 : Int32} {h : Hp}, rec_12 v1 v2 h = some r → G X d 70 12 [some (.ref 21), some (.int v1), some (.int v2)] [] h) {h : Hp} {v1 : Int32} {v2 : Int32} (e : R_70_42 c_69 c_70 c_71 c_72 rec_12 v1 v2 h = some r) : G X d 70 42 [some (.ref 21), some (.int v1), some (.int v2)] [] h := by
  unfold R_70_42 at e
  obtain ⟨x, h2, e1, e2⟩ := bndV_s e
  refine k_70_42 (by omega) (t_76 e1) ?_
  rintro _ rfl
  exact r_70_51 hd hgd hc_69 hc_70 hc_71 hc_72 hq hr_12 e2
noncomputable def R_70_40 (c_69 : Int32 → Hp → Option (Int32 × Hp)) (c_70 : Int32 → Hp → Option (Int32 × Hp)) (c_71 : Int32 → Hp → Option (Int32 × Hp)) (c_72 : Int32 → Hp → Option (Int32 × Hp)) (h : Hp) : Option (Int32 × Hp) := some (0, h)
theorem r_70_40 {X : GX} {d : Nat} {r : Int32 × Hp} {c_69 : Int32 → Hp → Option (Int32 × Hp)} {c_70 : Int32 → Hp → Option (Int32 × Hp)} {c_71 : Int32 → Hp → Option (Int32 × Hp)} {c_72 : Int32 → Hp → Option (Int32 × Hp)} {dg : Nat} (hd : 3 ≤ d) (hgd : dg < d) (hc_69 : ∀ {v1 : Int32} {h : Hp} {r : Int32 × Hp}, c_69 v1 h = some r → CI dg 69 [.ref 21, .int v1] h (fun x g => x = r.1 ∧ g = r.2)) (hc_70 : ∀ {v1 : Int32} {h : Hp} {r : Int32 × Hp}, c_70 v1 h = some r → CI dg 70 [.ref 21, .int v1] h (fun x g => x = r.1 ∧ g = r.2)) (hc_71 : ∀ {v1 : Int32} {h : Hp} {r : Int32 × Hp}, c_71 v1 h = some r → CI dg 71 [.ref 21, .int v1] h (fun x g => x = r.1 ∧ g = r.2)) (hc_72 : ∀ {v1 : Int32} {h : Hp} {r : Int32 × Hp}, c_72 v1 h = some r → CI dg 72 [.ref 21, .int v1] h (fun x g => x = r.1 ∧ g = r.2)) (hq : RtX X (some (.int r.1)) r.2) {h : Hp} (e : R_70_40 c_69 c_70 c_71 c_72 h = some r) : G X d 70 40 [none, none, none] [] h := by
  unfold R_70_40 at e
  rw [← Option.some.inj e] at hq
  exact k_70_40 hq
noncomputable def R_70_37 (c_69 : Int32 → Hp → Option (Int32 × Hp)) (c_70 : Int32 → Hp → Option (Int32 × Hp)) (c_71 : Int32 → Hp → Option (Int32 × Hp)) (c_72 : Int32 → Hp → Option (Int32 × Hp)) (rec_12 : Int32 → Int32 → Hp → Option (Int32 × Hp)) (v1 : Int32) (v2 : Int32) (s0 : Int32) (h : Hp) : Option (Int32 × Hp) := if s0 = 0 then R_70_40 c_69 c_70 c_71 c_72 h else R_70_42 c_69 c_70 c_71 c_72 rec_12 v1 v2 h
theorem r_70_37 {X : GX} {d : Nat} {r : Int32 × Hp} {c_69 : Int32 → Hp → Option (Int32 × Hp)} {c_70 : Int32 → Hp → Option (Int32 × Hp)} {c_71 : Int32 → Hp → Option (Int32 × Hp)} {c_72 : Int32 → Hp → Option (Int32 × Hp)} {dg : Nat} (hd : 3 ≤ d) (hgd : dg < d) (hc_69 : ∀ {v1 : Int32} {h : Hp} {r : Int32 × Hp}, c_69 v1 h = some r → CI dg 69 [.ref 21, .int v1] h (fun x g => x = r.1 ∧ g = r.2)) (hc_70 : ∀ {v1 : Int32} {h : Hp} {r : Int32 × Hp}, c_70 v1 h = some r → CI dg 70 [.ref 21, .int v1] h (fun x g => x = r.1 ∧ g = r.2)) (hc_71 : ∀ {v1 : Int32} {h : Hp} {r : Int32 × Hp}, c_71 v1 h = some r → CI dg 71 [.ref 21, .int v1] h (fun x g => x = r.1 ∧ g = r.2)) (hc_72 : ∀ {v1 : Int32} {h : Hp} {r : Int32 × Hp}, c_72 v1 h = some r → CI dg 72 [.ref 21, .int v1] h (fun x g => x = r.1 ∧ g = r.2)) (hq : RtX X (some (.int r.1)) r.2) {rec_12 : Int32 → Int32 → Hp → Option (Int32 × Hp)} (hr_12 : ∀ {v1 : Int32} {v2 : Int32} {h : Hp}, rec_12 v1 v2 h = some r → G X d 70 12 [some (.ref 21), some (.int v1), some (.int v2)] [] h) {h : Hp} {v1 : Int32} {v2 : Int32} {s0 : Int32} (e : R_70_37 c_69 c_70 c_71 c_72 rec_12 v1 v2 s0 h = some r) : G X d 70 37 [some (.ref 21), some (.int v1), some (.int v2)] [.int s0] h := by
  unfold R_70_37 at e
  refine k_70_37 (fun c => ?_) (fun c => ?_)
  · rw [if_neg c] at e; exact r_70_42 hd hgd hc_69 hc_70 hc_71 hc_72 hq hr_12 e
  · rw [if_pos c] at e; exact r_70_40 hd hgd hc_69 hc_70 hc_71 hc_72 hq e
noncomputable def R_70_32 (c_69 : Int32 → Hp → Option (Int32 × Hp)) (c_70 : Int32 → Hp → Option (Int32 × Hp)) (c_71 : Int32 → Hp → Option (Int32 × Hp)) (c_72 : Int32 → Hp → Option (Int32 × Hp)) (rec_12 : Int32 → Int32 → Hp → Option (Int32 × Hp)) (v1 : Int32) (v2 : Int32) (h : Hp) : Option (Int32 × Hp) := bndI (c_71 v1 h) (R_70_37 c_69 c_70 c_71 c_72 rec_12 v1 v2)
theorem r_70_32 {X : GX} {d : Nat} {r : Int32 × Hp} {c_69 : Int32 → Hp → Option (Int32 × Hp)} {c_70 : Int32 → Hp → Option (Int32 × Hp)} {c_71 : Int32 → Hp → Option (Int32 × Hp)} {c_72 : Int32 → Hp → Option (Int32 × Hp)} {dg : Nat} (hd : 3 ≤ d) (hgd : dg < d) (hc_69 : ∀ {v1 : Int32} {h : Hp} {r : Int32 × Hp}, c_69 v1 h = some r → CI dg 69 [.ref 21, .int v1] h (fun x g => x = r.1 ∧ g = r.2)) (hc_70 : ∀ {v1 : Int32} {h : Hp} {r : Int32 × Hp}, c_70 v1 h = some r → CI dg 70 [.ref 21, .int v1] h (fun x g => x = r.1 ∧ g = r.2)) (hc_71 : ∀ {v1 : Int32} {h : Hp} {r : Int32 × Hp}, c_71 v1 h = some r → CI dg 71 [.ref 21, .int v1] h (fun x g => x = r.1 ∧ g = r.2)) (hc_72 : ∀ {v1 : Int32} {h : Hp} {r : Int32 × Hp}, c_72 v1 h = some r → CI dg 72 [.ref 21, .int v1] h (fun x g => x = r.1 ∧ g = r.2)) (hq : RtX X (some (.int r.1)) r.2) {rec_12 : Int32 → Int32 → Hp → Option (Int32 × Hp)} (hr_12 : ∀ {v1 : Int32} {v2 : Int32} {h : Hp}, rec_12 v1 v2 h = some r → G X d 70 12 [some (.ref 21), some (.int v1), some (.int v2)] [] h) {h : Hp} {v1 : Int32} {v2 : Int32} (e : R_70_32 c_69 c_70 c_71 c_72 rec_12 v1 v2 h = some r) : G X d 70 32 [some (.ref 21), some (.int v1), some (.int v2)] [] h := by
  unfold R_70_32 at e
  obtain ⟨x, h2, e1, e2⟩ := bndI_s e
  refine k_70_32 hgd (hc_71 e1) ?_
  rintro _ _ ⟨rfl, rfl⟩
  exact r_70_37 hd hgd hc_69 hc_70 hc_71 hc_72 hq hr_12 e2
noncomputable def R_70_28 (c_69 : Int32 → Hp → Option (Int32 × Hp)) (c_70 : Int32 → Hp → Option (Int32 × Hp)) (c_71 : Int32 → Hp → Option (Int32 × Hp)) (c_72 : Int32 → Hp → Option (Int32 × Hp)) (rec_12 : Int32 → Int32 → Hp → Option (Int32 × Hp)) (v1 : Int32) (v2 : Int32) (h : Hp) : Option (Int32 × Hp) := bndV (S_68 h) (R_70_32 c_69 c_70 c_71 c_72 rec_12 v1 v2)
theorem r_70_28 {X : GX} {d : Nat} {r : Int32 × Hp} {c_69 : Int32 → Hp → Option (Int32 × Hp)} {c_70 : Int32 → Hp → Option (Int32 × Hp)} {c_71 : Int32 → Hp → Option (Int32 × Hp)} {c_72 : Int32 → Hp → Option (Int32 × Hp)} {dg : Nat} (hd : 3 ≤ d) (hgd : dg < d) (hc_69 : ∀ {v1 : Int32} {h : Hp} {r : Int32 × Hp}, c_69 v1 h = some r → CI dg 69 [.ref 21, .int v1] h (fun x g => x = r.1 ∧ g = r.2)) (hc_70 : ∀ {v1 : Int32} {h : Hp} {r : Int32 × Hp}, c_70 v1 h = some r → CI dg 70 [.ref 21, .int v1] h (fun x g => x = r.1 ∧ g = r.2)) (hc_71 : ∀ {v1 : Int32} {h : Hp} {r : Int32 × Hp}, c_71 v1 h = some r → CI dg 71 [.ref 21, .int v1] h (fun x g => x = r.1 ∧ g = r.2)) (hc_72 : ∀ {v1 : Int32} {h : Hp} {r : Int32 × Hp}, c_72 v1 h = some r → CI dg 72 [.ref 21, .int v1] h (fun x g => x = r.1 ∧ g = r.2)) (hq : RtX X (some (.int r.1)) r.2) {rec_12 : Int32 → Int32 → Hp → Option (Int32 × Hp)} (hr_12 : ∀ {v1 : Int32} {v2 : Int32} {h : Hp}, rec_12 v1 v2 h = some r → G X d 70 12 [some (.ref 21), some (.int v1), some (.int v2)] [] h) {h : Hp} {v1 : Int32} {v2 : Int32} (e : R_70_28 c_69 c_70 c_71 c_72 rec_12 v1 v2 h = some r) : G X d 70 28 [some (.ref 21), some (.int v1), some (.int v2)] [] h := by
  unfold R_70_28 at e
  obtain ⟨x, h2, e1, e2⟩ := bndV_s e
  refine k_70_28 (by omega) (t_68 e1) ?_
  rintro _ rfl
  exact r_70_32 hd hgd hc_69 hc_70 hc_71 hc_72 hq hr_12 e2
noncomputable def R_70_19 (c_69 : Int32 → Hp → Option (Int32 × Hp)) (c_70 : Int32 → Hp → Option (Int32 × Hp)) (c_71 : Int32 → Hp → Option (Int32 × Hp)) (c_72 : Int32 → Hp → Option (Int32 × Hp)) (rec_12 : Int32 → Int32 → Hp → Option (Int32 × Hp)) (v1 : Int32) (v2 : Int32) (h : Hp) : Option (Int32 × Hp) := if (h 21 8) = 11 then R_70_28 c_69 c_70 c_71 c_72 rec_12 v1 v2 h else R_70_57 c_69 c_70 c_71 c_72 h
theorem r_70_19 {X : GX} {d : Nat} {r : Int32 × Hp} {c_69 : Int32 → Hp → Option (Int32 × Hp)} {c_70 : Int32 → Hp → Option (Int32 × Hp)} {c_71 : Int32 → Hp → Option (Int32 × Hp)} {c_72 : Int32 → Hp → Option (Int32 × Hp)} {dg : Nat} (hd : 3 ≤ d) (hgd : dg < d) (hc_69 : ∀ {v1 : Int32} {h : Hp} {r : Int32 × Hp}, c_69 v1 h = some r → CI dg 69 [.ref 21, .int v1] h (fun x g => x = r.1 ∧ g = r.2)) (hc_70 : ∀ {v1 : Int32} {h : Hp} {r : Int32 × Hp}, c_70 v1 h = some r → CI dg 70 [.ref 21, .int v1] h (fun x g => x = r.1 ∧ g = r.2)) (hc_71 : ∀ {v1 : Int32} {h : Hp} {r : Int32 × Hp}, c_71 v1 h = some r → CI dg 71 [.ref 21, .int v1] h (fun x g => x = r.1 ∧ g = r.2)) (hc_72 : ∀ {v1 : Int32} {h : Hp} {r : Int32 × Hp}, c_72 v1 h = some r → CI dg 72 [.ref 21, .int v1] h (fun x g => x = r.1 ∧ g = r.2)) (hq : RtX X (some (.int r.1)) r.2) {rec_12 : Int32 → Int32 → Hp → Option (Int32 × Hp)} (hr_12 : ∀ {v1 : Int32} {v2 : Int32} {h : Hp}, rec_12 v1 v2 h = some r → G X d 70 12 [some (.ref 21), some (.int v1), some (.int v2)] [] h) {h : Hp} {v1 : Int32} {v2 : Int32} (e : R_70_19 c_69 c_70 c_71 c_72 rec_12 v1 v2 h = some r) : G X d 70 19 [some (.ref 21), some (.int v1), some (.int v2)] [] h := by
  unfold R_70_19 at e
  refine k_70_19 (fun c => ?_) (fun c => ?_)
  · rw [if_neg c] at e; exact r_70_57 hd hgd hc_69 hc_70 hc_71 hc_72 hq e
  · rw [if_pos c] at e; exact r_70_28 hd hgd hc_69 hc_70 hc_71 hc_72 hq hr_12 e
noncomputable def R_70_12 (c_69 : Int32 → Hp → Option (Int32 × Hp)) (c_70 : Int32 → Hp → Option (Int32 × Hp)) (c_71 : Int32 → Hp → Option (Int32 × Hp)) (c_72 : Int32 → Hp → Option (Int32 × Hp)) (rec_12 : Int32 → Int32 → Hp → Option (Int32 × Hp)) (v1 : Int32) (v2 : Int32) (h : Hp) : Option (Int32 × Hp) := if 200 ≤ v2 then R_70_57 c_69 c_70 c_71 c_72 h else R_70_19 c_69 c_70 c_71 c_72 rec_12 v1 v2 h
theorem r_70_12 {X : GX} {d : Nat} {r : Int32 × Hp} {c_69 : Int32 → Hp → Option (Int32 × Hp)} {c_70 : Int32 → Hp → Option (Int32 × Hp)} {c_71 : Int32 → Hp → Option (Int32 × Hp)} {c_72 : Int32 → Hp → Option (Int32 × Hp)} {dg : Nat} (hd : 3 ≤ d) (hgd : dg < d) (hc_69 : ∀ {v1 : Int32} {h : Hp} {r : Int32 × Hp}, c_69 v1 h = some r → CI dg 69 [.ref 21, .int v1] h (fun x g => x = r.1 ∧ g = r.2)) (hc_70 : ∀ {v1 : Int32} {h : Hp} {r : Int32 × Hp}, c_70 v1 h = some r → CI dg 70 [.ref 21, .int v1] h (fun x g => x = r.1 ∧ g = r.2)) (hc_71 : ∀ {v1 : Int32} {h : Hp} {r : Int32 × Hp}, c_71 v1 h = some r → CI dg 71 [.ref 21, .int v1] h (fun x g => x = r.1 ∧ g = r.2)) (hc_72 : ∀ {v1 : Int32} {h : Hp} {r : Int32 × Hp}, c_72 v1 h = some r → CI dg 72 [.ref 21, .int v1] h (fun x g => x = r.1 ∧ g = r.2)) (hq : RtX X (some (.int r.1)) r.2) {rec_12 : Int32 → Int32 → Hp → Option (Int32 × Hp)} (hr_12 : ∀ {v1 : Int32} {v2 : Int32} {h : Hp}, rec_12 v1 v2 h = some r → G X d 70 12 [some (.ref 21), some (.int v1), some (.int v2)] [] h) {h : Hp} {v1 : Int32} {v2 : Int32} (e : R_70_12 c_69 c_70 c_71 c_72 rec_12 v1 v2 h = some r) : G X d 70 12 [some (.ref 21), some (.int v1), some (.int v2)] [] h := by
  unfold R_70_12 at e
  refine k_70_12 (fun c => ?_) (fun c => ?_)
  · rw [if_pos c] at e; exact r_70_57 hd hgd hc_69 hc_70 hc_71 hc_72 hq e
  · rw [if_neg c] at e; exact r_70_19 hd hgd hc_69 hc_70 hc_71 hc_72 hq hr_12 e
noncomputable def H_70_12 (c_69 : Int32 → Hp → Option (Int32 × Hp)) (c_70 : Int32 → Hp → Option (Int32 × Hp)) (c_71 : Int32 → Hp → Option (Int32 × Hp)) (c_72 : Int32 → Hp → Option (Int32 × Hp)) : Nat → Int32 → Int32 → Hp → Option (Int32 × Hp)
  | 0, _, _, _ => none
  | n + 1, v1, v2, h => R_70_12 c_69 c_70 c_71 c_72 (H_70_12 c_69 c_70 c_71 c_72 n) v1 v2 h
theorem h_70_12 {X : GX} {d : Nat} {r : Int32 × Hp} {c_69 : Int32 → Hp → Option (Int32 × Hp)} {c_70 : Int32 → Hp → Option (Int32 × Hp)} {c_71 : Int32 → Hp → Option (Int32 × Hp)} {c_72 : Int32 → Hp → Option (Int32 × Hp)} {dg : Nat} (hd : 3 ≤ d) (hgd : dg < d) (hc_69 : ∀ {v1 : Int32} {h : Hp} {r : Int32 × Hp}, c_69 v1 h = some r → CI dg 69 [.ref 21, .int v1] h (fun x g => x = r.1 ∧ g = r.2)) (hc_70 : ∀ {v1 : Int32} {h : Hp} {r : Int32 × Hp}, c_70 v1 h = some r → CI dg 70 [.ref 21, .int v1] h (fun x g => x = r.1 ∧ g = r.2)) (hc_71 : ∀ {v1 : Int32} {h : Hp} {r : Int32 × Hp}, c_71 v1 h = some r → CI dg 71 [.ref 21, .int v1] h (fun x g => x = r.1 ∧ g = r.2)) (hc_72 : ∀ {v1 : Int32} {h : Hp} {r : Int32 × Hp}, c_72 v1 h = some r → CI dg 72 [.ref 21, .int v1] h (fun x g => x = r.1 ∧ g = r.2)) (hq : RtX X (some (.int r.1)) r.2) {n : Nat} {h : Hp} {v1 : Int32} {v2 : Int32} (e : H_70_12 c_69 c_70 c_71 c_72 n v1 v2 h = some r) : G X d 70 12 [some (.ref 21), some (.int v1), some (.int v2)] [] h := by
  induction n generalizing v1 v2 h with
  | zero => cases e
  | succ n ih => exact r_70_12 hd hgd hc_69 hc_70 hc_71 hc_72 hq (fun e => ih e) e
noncomputable def R_70_10 (c_69 : Int32 → Hp → Option (Int32 × Hp)) (c_70 : Int32 → Hp → Option (Int32 × Hp)) (c_71 : Int32 → Hp → Option (Int32 × Hp)) (c_72 : Int32 → Hp → Option (Int32 × Hp)) (v1 : Int32) (h : Hp) : Option (Int32 × Hp) := H_70_12 c_69 c_70 c_71 c_72 fuL v1 0 h
theorem r_70_10 {X : GX} {d : Nat} {r : Int32 × Hp} {c_69 : Int32 → Hp → Option (Int32 × Hp)} {c_70 : Int32 → Hp → Option (Int32 × Hp)} {c_71 : Int32 → Hp → Option (Int32 × Hp)} {c_72 : Int32 → Hp → Option (Int32 × Hp)} {dg : Nat} (hd : 3 ≤ d) (hgd : dg < d) (hc_69 : ∀ {v1 : Int32} {h : Hp} {r : Int32 × Hp}, c_69 v1 h = some r → CI dg 69 [.ref 21, .int v1] h (fun x g => x = r.1 ∧ g = r.2)) (hc_70 : ∀ {v1 : Int32} {h : Hp} {r : Int32 × Hp}, c_70 v1 h = some r → CI dg 70 [.ref 21, .int v1] h (fun x g => x = r.1 ∧ g = r.2)) (hc_71 : ∀ {v1 : Int32} {h : Hp} {r : Int32 × Hp}, c_71 v1 h = some r → CI dg 71 [.ref 21, .int v1] h (fun x g => x = r.1 ∧ g = r.2)) (hc_72 : ∀ {v1 : Int32} {h : Hp} {r : Int32 × Hp}, c_72 v1 h = some r → CI dg 72 [.ref 21, .int v1] h (fun x g => x = r.1 ∧ g = r.2)) (hq : RtX X (some (.int r.1)) r.2) {h : Hp} {v1 : Int32} (e : R_70_10 c_69 c_70 c_71 c_72 v1 h = some r) : G X d 70 10 [some (.ref 21), some (.int v1), none] [] h := by
  unfold R_70_10 at e
  exact k_70_10 (h_70_12 hd hgd hc_69 hc_70 hc_71 hc_72 hq e)
noncomputable def R_70_8 (c_69 : Int32 → Hp → Option (Int32 × Hp)) (c_70 : Int32 → Hp → Option (Int32 × Hp)) (c_71 : Int32 → Hp → Option (Int32 × Hp)) (c_72 : Int32 → Hp → Option (Int32 × Hp)) (h : Hp) : Option (Int32 × Hp) := some (0, h)
theorem r_70_8 {X : GX} {d : Nat} {r : Int32 × Hp} {c_69 : Int32 → Hp → Option (Int32 × Hp)} {c_70 : Int32 → Hp → Option (Int32 × Hp)} {c_71 : Int32 → Hp → Option (Int32 × Hp)} {c_72 : Int32 → Hp → Option (Int32 × Hp)} {dg : Nat} (hd : 3 ≤ d) (hgd : dg < d) (hc_69 : ∀ {v1 : Int32} {h : Hp} {r : Int32 × Hp}, c_69 v1 h = some r → CI dg 69 [.ref 21, .int v1] h (fun x g => x = r.1 ∧ g = r.2)) (hc_70 : ∀ {v1 : Int32} {h : Hp} {r : Int32 × Hp}, c_70 v1 h = some r → CI dg 70 [.ref 21, .int v1] h (fun x g => x = r.1 ∧ g = r.2)) (hc_71 : ∀ {v1 : Int32} {h : Hp} {r : Int32 × Hp}, c_71 v1 h = some r → CI dg 71 [.ref 21, .int v1] h (fun x g => x = r.1 ∧ g = r.2)) (hc_72 : ∀ {v1 : Int32} {h : Hp} {r : Int32 × Hp}, c_72 v1 h = some r → CI dg 72 [.ref 21, .int v1] h (fun x g => x = r.1 ∧ g = r.2)) (hq : RtX X (some (.int r.1)) r.2) {h : Hp} (e : R_70_8 c_69 c_70 c_71 c_72 h = some r) : G X d 70 8 [none, none, none] [] h := by
  unfold R_70_8 at e
  rw [← Option.some.inj e] at hq
  exact k_70_8 hq
noncomputable def R_70_5 (c_69 : Int32 → Hp → Option (Int32 × Hp)) (c_70 : Int32 → Hp → Option (Int32 × Hp)) (c_71 : Int32 → Hp → Option (Int32 × Hp)) (c_72 : Int32 → Hp → Option (Int32 × Hp)) (v1 : Int32) (s0 : Int32) (h : Hp) : Option (Int32 × Hp) := if s0 = 0 then R_70_8 c_69 c_70 c_71 c_72 h else R_70_10 c_69 c_70 c_71 c_72 v1 h
theorem r_70_5 {X : GX} {d : Nat} {r : Int32 × Hp} {c_69 : Int32 → Hp → Option (Int32 × Hp)} {c_70 : Int32 → Hp → Option (Int32 × Hp)} {c_71 : Int32 → Hp → Option (Int32 × Hp)} {c_72 : Int32 → Hp → Option (Int32 × Hp)} {dg : Nat} (hd : 3 ≤ d) (hgd : dg < d) (hc_69 : ∀ {v1 : Int32} {h : Hp} {r : Int32 × Hp}, c_69 v1 h = some r → CI dg 69 [.ref 21, .int v1] h (fun x g => x = r.1 ∧ g = r.2)) (hc_70 : ∀ {v1 : Int32} {h : Hp} {r : Int32 × Hp}, c_70 v1 h = some r → CI dg 70 [.ref 21, .int v1] h (fun x g => x = r.1 ∧ g = r.2)) (hc_71 : ∀ {v1 : Int32} {h : Hp} {r : Int32 × Hp}, c_71 v1 h = some r → CI dg 71 [.ref 21, .int v1] h (fun x g => x = r.1 ∧ g = r.2)) (hc_72 : ∀ {v1 : Int32} {h : Hp} {r : Int32 × Hp}, c_72 v1 h = some r → CI dg 72 [.ref 21, .int v1] h (fun x g => x = r.1 ∧ g = r.2)) (hq : RtX X (some (.int r.1)) r.2) {h : Hp} {v1 : Int32} {s0 : Int32} (e : R_70_5 c_69 c_70 c_71 c_72 v1 s0 h = some r) : G X d 70 5 [some (.ref 21), some (.int v1), none] [.int s0] h := by
  unfold R_70_5 at e
  refine k_70_5 (fun c => ?_) (fun c => ?_)
  · rw [if_neg c] at e; exact r_70_10 hd hgd hc_69 hc_70 hc_71 hc_72 hq e
  · rw [if_pos c] at e; exact r_70_8 hd hgd hc_69 hc_70 hc_71 hc_72 hq e
noncomputable def R_70_0 (c_69 : Int32 → Hp → Option (Int32 × Hp)) (c_70 : Int32 → Hp → Option (Int32 × Hp)) (c_71 : Int32 → Hp → Option (Int32 × Hp)) (c_72 : Int32 → Hp → Option (Int32 × Hp)) (v1 : Int32) (h : Hp) : Option (Int32 × Hp) := bndI (c_71 v1 h) (R_70_5 c_69 c_70 c_71 c_72 v1)
theorem r_70_0 {X : GX} {d : Nat} {r : Int32 × Hp} {c_69 : Int32 → Hp → Option (Int32 × Hp)} {c_70 : Int32 → Hp → Option (Int32 × Hp)} {c_71 : Int32 → Hp → Option (Int32 × Hp)} {c_72 : Int32 → Hp → Option (Int32 × Hp)} {dg : Nat} (hd : 3 ≤ d) (hgd : dg < d) (hc_69 : ∀ {v1 : Int32} {h : Hp} {r : Int32 × Hp}, c_69 v1 h = some r → CI dg 69 [.ref 21, .int v1] h (fun x g => x = r.1 ∧ g = r.2)) (hc_70 : ∀ {v1 : Int32} {h : Hp} {r : Int32 × Hp}, c_70 v1 h = some r → CI dg 70 [.ref 21, .int v1] h (fun x g => x = r.1 ∧ g = r.2)) (hc_71 : ∀ {v1 : Int32} {h : Hp} {r : Int32 × Hp}, c_71 v1 h = some r → CI dg 71 [.ref 21, .int v1] h (fun x g => x = r.1 ∧ g = r.2)) (hc_72 : ∀ {v1 : Int32} {h : Hp} {r : Int32 × Hp}, c_72 v1 h = some r → CI dg 72 [.ref 21, .int v1] h (fun x g => x = r.1 ∧ g = r.2)) (hq : RtX X (some (.int r.1)) r.2) {h : Hp} {v1 : Int32} (e : R_70_0 c_69 c_70 c_71 c_72 v1 h = some r) : G X d 70 0 [some (.ref 21), some (.int v1), none] [] h := by
  unfold R_70_0 at e
  obtain ⟨x, h2, e1, e2⟩ := bndI_s e
  refine k_70_0 hgd (hc_71 e1) ?_
  rintro _ _ ⟨rfl, rfl⟩
  exact r_70_5 hd hgd hc_69 hc_70 hc_71 hc_72 hq e2
/-! 71 PlayedTruth$RuleReader.readOne(I)Z -/
noncomputable def R_71_79 (c_69 : Int32 → Hp → Option (Int32 × Hp)) (c_70 : Int32 → Hp → Option (Int32 × Hp)) (c_71 : Int32 → Hp → Option (Int32 × Hp)) (c_72 : Int32 → Hp → Option (Int32 × Hp)) (v3 : Int32) (h : Hp) : Option (Int32 × Hp) := gd (v3 = 0 ∨ v3 = 1) (some (v3, h))
theorem r_71_79 {X : GX} {d : Nat} {r : Int32 × Hp} {c_69 : Int32 → Hp → Option (Int32 × Hp)} {c_70 : Int32 → Hp → Option (Int32 × Hp)} {c_71 : Int32 → Hp → Option (Int32 × Hp)} {c_72 : Int32 → Hp → Option (Int32 × Hp)} {dg : Nat} (hd : 3 ≤ d) (hgd : dg < d) (hc_69 : ∀ {v1 : Int32} {h : Hp} {r : Int32 × Hp}, c_69 v1 h = some r → CI dg 69 [.ref 21, .int v1] h (fun x g => x = r.1 ∧ g = r.2)) (hc_70 : ∀ {v1 : Int32} {h : Hp} {r : Int32 × Hp}, c_70 v1 h = some r → CI dg 70 [.ref 21, .int v1] h (fun x g => x = r.1 ∧ g = r.2)) (hc_71 : ∀ {v1 : Int32} {h : Hp} {r : Int32 × Hp}, c_71 v1 h = some r → CI dg 71 [.ref 21, .int v1] h (fun x g => x = r.1 ∧ g = r.2)) (hc_72 : ∀ {v1 : Int32} {h : Hp} {r : Int32 × Hp}, c_72 v1 h = some r → CI dg 72 [.ref 21, .int v1] h (fun x g => x = r.1 ∧ g = r.2)) (hq : RtX X (some (.int r.1)) r.2) {h : Hp} {v3 : Int32} (e : R_71_79 c_69 c_70 c_71 c_72 v3 h = some r) : G X d 71 79 [none, none, none, some (.int v3)] [] h := by
  unfold R_71_79 at e
  have g := gd_s e; clear e; obtain ⟨z0, e⟩ := g
  rw [← Option.some.inj e] at hq
  exact k_71_79 z0 hq
noncomputable def R_71_70 (c_69 : Int32 → Hp → Option (Int32 × Hp)) (c_70 : Int32 → Hp → Option (Int32 × Hp)) (c_71 : Int32 → Hp → Option (Int32 × Hp)) (c_72 : Int32 → Hp → Option (Int32 × Hp)) (v3 : Int32) (h : Hp) : Option (Int32 × Hp) := bndV (S_76 10 h) (R_71_79 c_69 c_70 c_71 c_72 v3)
theorem r_71_70 {X : GX} {d : Nat} {r : Int32 × Hp} {c_69 : Int32 → Hp → Option (Int32 × Hp)} {c_70 : Int32 → Hp → Option (Int32 × Hp)} {c_71 : Int32 → Hp → Option (Int32 × Hp)} {c_72 : Int32 → Hp → Option (Int32 × Hp)} {dg : Nat} (hd : 3 ≤ d) (hgd : dg < d) (hc_69 : ∀ {v1 : Int32} {h : Hp} {r : Int32 × Hp}, c_69 v1 h = some r → CI dg 69 [.ref 21, .int v1] h (fun x g => x = r.1 ∧ g = r.2)) (hc_70 : ∀ {v1 : Int32} {h : Hp} {r : Int32 × Hp}, c_70 v1 h = some r → CI dg 70 [.ref 21, .int v1] h (fun x g => x = r.1 ∧ g = r.2)) (hc_71 : ∀ {v1 : Int32} {h : Hp} {r : Int32 × Hp}, c_71 v1 h = some r → CI dg 71 [.ref 21, .int v1] h (fun x g => x = r.1 ∧ g = r.2)) (hc_72 : ∀ {v1 : Int32} {h : Hp} {r : Int32 × Hp}, c_72 v1 h = some r → CI dg 72 [.ref 21, .int v1] h (fun x g => x = r.1 ∧ g = r.2)) (hq : RtX X (some (.int r.1)) r.2) {h : Hp} {v3 : Int32} (e : R_71_70 c_69 c_70 c_71 c_72 v3 h = some r) : G X d 71 70 [some (.ref 21), none, none, some (.int v3)] [] h := by
  unfold R_71_70 at e
  obtain ⟨x, h2, e1, e2⟩ := bndV_s e
  refine k_71_70 (by omega) (t_76 e1) ?_
  rintro _ rfl
  exact r_71_79 hd hgd hc_69 hc_70 hc_71 hc_72 hq e2
noncomputable def R_71_66 (c_69 : Int32 → Hp → Option (Int32 × Hp)) (c_70 : Int32 → Hp → Option (Int32 × Hp)) (c_71 : Int32 → Hp → Option (Int32 × Hp)) (c_72 : Int32 → Hp → Option (Int32 × Hp)) (v2 : Int32) (v3 : Int32) (h : Hp) : Option (Int32 × Hp) := if v2 = 0 then R_71_79 c_69 c_70 c_71 c_72 v3 h else R_71_70 c_69 c_70 c_71 c_72 v3 h
theorem r_71_66 {X : GX} {d : Nat} {r : Int32 × Hp} {c_69 : Int32 → Hp → Option (Int32 × Hp)} {c_70 : Int32 → Hp → Option (Int32 × Hp)} {c_71 : Int32 → Hp → Option (Int32 × Hp)} {c_72 : Int32 → Hp → Option (Int32 × Hp)} {dg : Nat} (hd : 3 ≤ d) (hgd : dg < d) (hc_69 : ∀ {v1 : Int32} {h : Hp} {r : Int32 × Hp}, c_69 v1 h = some r → CI dg 69 [.ref 21, .int v1] h (fun x g => x = r.1 ∧ g = r.2)) (hc_70 : ∀ {v1 : Int32} {h : Hp} {r : Int32 × Hp}, c_70 v1 h = some r → CI dg 70 [.ref 21, .int v1] h (fun x g => x = r.1 ∧ g = r.2)) (hc_71 : ∀ {v1 : Int32} {h : Hp} {r : Int32 × Hp}, c_71 v1 h = some r → CI dg 71 [.ref 21, .int v1] h (fun x g => x = r.1 ∧ g = r.2)) (hc_72 : ∀ {v1 : Int32} {h : Hp} {r : Int32 × Hp}, c_72 v1 h = some r → CI dg 72 [.ref 21, .int v1] h (fun x g => x = r.1 ∧ g = r.2)) (hq : RtX X (some (.int r.1)) r.2) {h : Hp} {v2 : Int32} {v3 : Int32} (e : R_71_66 c_69 c_70 c_71 c_72 v2 v3 h = some r) : G X d 71 66 [some (.ref 21), none, some (.int v2), some (.int v3)] [] h := by
  unfold R_71_66 at e
  refine k_71_66 (fun c => ?_) (fun c => ?_)
  · rw [if_pos c] at e; exact r_71_79 hd hgd hc_69 hc_70 hc_71 hc_72 hq e
  · rw [if_neg c] at e; exact r_71_70 hd hgd hc_69 hc_70 hc_71 hc_72 hq e
noncomputable def R_71_61 (c_69 : Int32 → Hp → Option (Int32 × Hp)) (c_70 : Int32 → Hp → Option (Int32 × Hp)) (c_71 : Int32 → Hp → Option (Int32 × Hp)) (c_72 : Int32 → Hp → Option (Int32 × Hp)) (v2 : Int32) (s0 : Int32) (h : Hp) : Option (Int32 × Hp) := if s0 = 0 then R_71_79 c_69 c_70 c_71 c_72 s0 h else R_71_66 c_69 c_70 c_71 c_72 v2 s0 h
theorem r_71_61 {X : GX} {d : Nat} {r : Int32 × Hp} {c_69 : Int32 → Hp → Option (Int32 × Hp)} {c_70 : Int32 → Hp → Option (Int32 × Hp)} {c_71 : Int32 → Hp → Option (Int32 × Hp)} {c_72 : Int32 → Hp → Option (Int32 × Hp)} {dg : Nat} (hd : 3 ≤ d) (hgd : dg < d) (hc_69 : ∀ {v1 : Int32} {h : Hp} {r : Int32 × Hp}, c_69 v1 h = some r → CI dg 69 [.ref 21, .int v1] h (fun x g => x = r.1 ∧ g = r.2)) (hc_70 : ∀ {v1 : Int32} {h : Hp} {r : Int32 × Hp}, c_70 v1 h = some r → CI dg 70 [.ref 21, .int v1] h (fun x g => x = r.1 ∧ g = r.2)) (hc_71 : ∀ {v1 : Int32} {h : Hp} {r : Int32 × Hp}, c_71 v1 h = some r → CI dg 71 [.ref 21, .int v1] h (fun x g => x = r.1 ∧ g = r.2)) (hc_72 : ∀ {v1 : Int32} {h : Hp} {r : Int32 × Hp}, c_72 v1 h = some r → CI dg 72 [.ref 21, .int v1] h (fun x g => x = r.1 ∧ g = r.2)) (hq : RtX X (some (.int r.1)) r.2) {h : Hp} {v2 : Int32} {s0 : Int32} (e : R_71_61 c_69 c_70 c_71 c_72 v2 s0 h = some r) : G X d 71 61 [some (.ref 21), none, some (.int v2), none] [.int s0] h := by
  unfold R_71_61 at e
  refine k_71_61 (fun c => ?_) (fun c => ?_)
  · rw [if_pos c] at e; exact r_71_79 hd hgd hc_69 hc_70 hc_71 hc_72 hq e
  · rw [if_neg c] at e; exact r_71_66 hd hgd hc_69 hc_70 hc_71 hc_72 hq e
noncomputable def R_71_57 (c_69 : Int32 → Hp → Option (Int32 × Hp)) (c_70 : Int32 → Hp → Option (Int32 × Hp)) (c_71 : Int32 → Hp → Option (Int32 × Hp)) (c_72 : Int32 → Hp → Option (Int32 × Hp)) (v2 : Int32) (h : Hp) : Option (Int32 × Hp) := bndI (S_73 h) (R_71_61 c_69 c_70 c_71 c_72 v2)
theorem r_71_57 {X : GX} {d : Nat} {r : Int32 × Hp} {c_69 : Int32 → Hp → Option (Int32 × Hp)} {c_70 : Int32 → Hp → Option (Int32 × Hp)} {c_71 : Int32 → Hp → Option (Int32 × Hp)} {c_72 : Int32 → Hp → Option (Int32 × Hp)} {dg : Nat} (hd : 3 ≤ d) (hgd : dg < d) (hc_69 : ∀ {v1 : Int32} {h : Hp} {r : Int32 × Hp}, c_69 v1 h = some r → CI dg 69 [.ref 21, .int v1] h (fun x g => x = r.1 ∧ g = r.2)) (hc_70 : ∀ {v1 : Int32} {h : Hp} {r : Int32 × Hp}, c_70 v1 h = some r → CI dg 70 [.ref 21, .int v1] h (fun x g => x = r.1 ∧ g = r.2)) (hc_71 : ∀ {v1 : Int32} {h : Hp} {r : Int32 × Hp}, c_71 v1 h = some r → CI dg 71 [.ref 21, .int v1] h (fun x g => x = r.1 ∧ g = r.2)) (hc_72 : ∀ {v1 : Int32} {h : Hp} {r : Int32 × Hp}, c_72 v1 h = some r → CI dg 72 [.ref 21, .int v1] h (fun x g => x = r.1 ∧ g = r.2)) (hq : RtX X (some (.int r.1)) r.2) {h : Hp} {v2 : Int32} (e : R_71_57 c_69 c_70 c_71 c_72 v2 h = some r) : G X d 71 57 [some (.ref 21), none, some (.int v2), none] [] h := by
  unfold R_71_57 at e
  obtain ⟨x, h2, e1, e2⟩ := bndI_s e
  refine k_71_57 (by omega) (t_73 e1) ?_
  rintro _ _ ⟨rfl, rfl⟩
  exact r_71_61 hd hgd hc_69 hc_70 hc_71 hc_72 hq e2
noncomputable def R_71_54 (c_69 : Int32 → Hp → Option (Int32 × Hp)) (c_70 : Int32 → Hp → Option (Int32 × Hp)) (c_71 : Int32 → Hp → Option (Int32 × Hp)) (c_72 : Int32 → Hp → Option (Int32 × Hp)) (v2 : Int32) (s0 : Int32) (h : Hp) : Option (Int32 × Hp) := if s0 = 0 then R_71_79 c_69 c_70 c_71 c_72 s0 h else R_71_66 c_69 c_70 c_71 c_72 v2 s0 h
theorem r_71_54 {X : GX} {d : Nat} {r : Int32 × Hp} {c_69 : Int32 → Hp → Option (Int32 × Hp)} {c_70 : Int32 → Hp → Option (Int32 × Hp)} {c_71 : Int32 → Hp → Option (Int32 × Hp)} {c_72 : Int32 → Hp → Option (Int32 × Hp)} {dg : Nat} (hd : 3 ≤ d) (hgd : dg < d) (hc_69 : ∀ {v1 : Int32} {h : Hp} {r : Int32 × Hp}, c_69 v1 h = some r → CI dg 69 [.ref 21, .int v1] h (fun x g => x = r.1 ∧ g = r.2)) (hc_70 : ∀ {v1 : Int32} {h : Hp} {r : Int32 × Hp}, c_70 v1 h = some r → CI dg 70 [.ref 21, .int v1] h (fun x g => x = r.1 ∧ g = r.2)) (hc_71 : ∀ {v1 : Int32} {h : Hp} {r : Int32 × Hp}, c_71 v1 h = some r → CI dg 71 [.ref 21, .int v1] h (fun x g => x = r.1 ∧ g = r.2)) (hc_72 : ∀ {v1 : Int32} {h : Hp} {r : Int32 × Hp}, c_72 v1 h = some r → CI dg 72 [.ref 21, .int v1] h (fun x g => x = r.1 ∧ g = r.2)) (hq : RtX X (some (.int r.1)) r.2) {h : Hp} {v2 : Int32} {s0 : Int32} (e : R_71_54 c_69 c_70 c_71 c_72 v2 s0 h = some r) : G X d 71 54 [some (.ref 21), none, some (.int v2), none] [.int s0] h := by
  unfold R_71_54 at e
  refine k_71_54 (fun c => ?_) (fun c => ?_)
  · rw [if_pos c] at e; exact r_71_79 hd hgd hc_69 hc_70 hc_71 hc_72 hq e
  · rw [if_neg c] at e; exact r_71_66 hd hgd hc_69 hc_70 hc_71 hc_72 hq e
noncomputable def R_71_49 (c_69 : Int32 → Hp → Option (Int32 × Hp)) (c_70 : Int32 → Hp → Option (Int32 × Hp)) (c_71 : Int32 → Hp → Option (Int32 × Hp)) (c_72 : Int32 → Hp → Option (Int32 × Hp)) (v1 : Int32) (v2 : Int32) (h : Hp) : Option (Int32 × Hp) := bndI (c_72 v1 h) (R_71_54 c_69 c_70 c_71 c_72 v2)
theorem r_71_49 {X : GX} {d : Nat} {r : Int32 × Hp} {c_69 : Int32 → Hp → Option (Int32 × Hp)} {c_70 : Int32 → Hp → Option (Int32 × Hp)} {c_71 : Int32 → Hp → Option (Int32 × Hp)} {c_72 : Int32 → Hp → Option (Int32 × Hp)} {dg : Nat} (hd : 3 ≤ d) (hgd : dg < d) (hc_69 : ∀ {v1 : Int32} {h : Hp} {r : Int32 × Hp}, c_69 v1 h = some r → CI dg 69 [.ref 21, .int v1] h (fun x g => x = r.1 ∧ g = r.2)) (hc_70 : ∀ {v1 : Int32} {h : Hp} {r : Int32 × Hp}, c_70 v1 h = some r → CI dg 70 [.ref 21, .int v1] h (fun x g => x = r.1 ∧ g = r.2)) (hc_71 : ∀ {v1 : Int32} {h : Hp} {r : Int32 × Hp}, c_71 v1 h = some r → CI dg 71 [.ref 21, .int v1] h (fun x g => x = r.1 ∧ g = r.2)) (hc_72 : ∀ {v1 : Int32} {h : Hp} {r : Int32 × Hp}, c_72 v1 h = some r → CI dg 72 [.ref 21, .int v1] h (fun x g => x = r.1 ∧ g = r.2)) (hq : RtX X (some (.int r.1)) r.2) {h : Hp} {v1 : Int32} {v2 : Int32} (e : R_71_49 c_69 c_70 c_71 c_72 v1 v2 h = some r) : G X d 71 49 [some (.ref 21), some (.int v1), some (.int v2), none] [] h := by
  unfold R_71_49 at e
  obtain ⟨x, h2, e1, e2⟩ := bndI_s e
  refine k_71_49 hgd (hc_72 e1) ?_
  rintro _ _ ⟨rfl, rfl⟩
  exact r_71_54 hd hgd hc_69 hc_70 hc_71 hc_72 hq e2
noncomputable def R_71_40 (c_69 : Int32 → Hp → Option (Int32 × Hp)) (c_70 : Int32 → Hp → Option (Int32 × Hp)) (c_71 : Int32 → Hp → Option (Int32 × Hp)) (c_72 : Int32 → Hp → Option (Int32 × Hp)) (v1 : Int32) (v2 : Int32) (h : Hp) : Option (Int32 × Hp) := if (h 21 8) = 23 then R_71_49 c_69 c_70 c_71 c_72 v1 v2 h else R_71_57 c_69 c_70 c_71 c_72 v2 h
theorem r_71_40 {X : GX} {d : Nat} {r : Int32 × Hp} {c_69 : Int32 → Hp → Option (Int32 × Hp)} {c_70 : Int32 → Hp → Option (Int32 × Hp)} {c_71 : Int32 → Hp → Option (Int32 × Hp)} {c_72 : Int32 → Hp → Option (Int32 × Hp)} {dg : Nat} (hd : 3 ≤ d) (hgd : dg < d) (hc_69 : ∀ {v1 : Int32} {h : Hp} {r : Int32 × Hp}, c_69 v1 h = some r → CI dg 69 [.ref 21, .int v1] h (fun x g => x = r.1 ∧ g = r.2)) (hc_70 : ∀ {v1 : Int32} {h : Hp} {r : Int32 × Hp}, c_70 v1 h = some r → CI dg 70 [.ref 21, .int v1] h (fun x g => x = r.1 ∧ g = r.2)) (hc_71 : ∀ {v1 : Int32} {h : Hp} {r : Int32 × Hp}, c_71 v1 h = some r → CI dg 71 [.ref 21, .int v1] h (fun x g => x = r.1 ∧ g = r.2)) (hc_72 : ∀ {v1 : Int32} {h : Hp} {r : Int32 × Hp}, c_72 v1 h = some r → CI dg 72 [.ref 21, .int v1] h (fun x g => x = r.1 ∧ g = r.2)) (hq : RtX X (some (.int r.1)) r.2) {h : Hp} {v1 : Int32} {v2 : Int32} (e : R_71_40 c_69 c_70 c_71 c_72 v1 v2 h = some r) : G X d 71 40 [some (.ref 21), some (.int v1), some (.int v2), none] [] h := by
  unfold R_71_40 at e
  refine k_71_40 (fun c => ?_) (fun c => ?_)
  · rw [if_neg c] at e; exact r_71_57 hd hgd hc_69 hc_70 hc_71 hc_72 hq e
  · rw [if_pos c] at e; exact r_71_49 hd hgd hc_69 hc_70 hc_71 hc_72 hq e
noncomputable def R_71_34 (c_69 : Int32 → Hp → Option (Int32 × Hp)) (c_70 : Int32 → Hp → Option (Int32 × Hp)) (c_71 : Int32 → Hp → Option (Int32 × Hp)) (c_72 : Int32 → Hp → Option (Int32 × Hp)) (rec_4 : Int32 → Int32 → Int32 → Hp → Option (Int32 × Hp)) (v1 : Int32) (v2 : Int32) (v3 : Int32) (h : Hp) : Option (Int32 × Hp) := rec_4 v1 v2 (v3 + 1) h
theorem r_71_34 {X : GX} {d : Nat} {r : Int32 × Hp} {c_69 : Int32 → Hp → Option (Int32 × Hp)} {c_70 : Int32 → Hp → Option (Int32 × Hp)} {c_71 : Int32 → Hp → Option (Int32 × Hp)} {c_72 : Int32 → Hp → Option (Int32 × Hp)} {dg : Nat} (hd : 3 ≤ d) (hgd : dg < d) (hc_69 : ∀ {v1 : Int32} {h : Hp} {r : Int32 × Hp}, c_69 v1 h = some r → CI dg 69 [.ref 21, .int v1] h (fun x g => x = r.1 ∧ g = r.2)) (hc_70 : ∀ {v1 : Int32} {h : Hp} {r : Int32 × Hp}, c_70 v1 h = some r → CI dg 70 [.ref 21, .int v1] h (fun x g => x = r.1 ∧ g = r.2)) (hc_71 : ∀ {v1 : Int32} {h : Hp} {r : Int32 × Hp}, c_71 v1 h = some r → CI dg 71 [.ref 21, .int v1] h (fun x g => x = r.1 ∧ g = r.2)) (hc_72 : ∀ {v1 : Int32} {h : Hp} {r : Int32 × Hp}, c_72 v1 h = some r → CI dg 72 [.ref 21, .int v1] h (fun x g => x = r.1 ∧ g = r.2)) (hq : RtX X (some (.int r.1)) r.2) {rec_4 : Int32 → Int32 → Int32 → Hp → Option (Int32 × Hp)} (hr_4 : ∀ {v1 : Int32} {v2 : Int32} {v3 : Int32} {h : Hp}, rec_4 v1 v2 v3 h = some r → G X d 71 4 [some (.ref 21), some (.int v1), some (.int v2), some (.int v3)] [] h) {h : Hp} {v1 : Int32} {v2 : Int32} {v3 : Int32} (e : R_71_34 c_69 c_70 c_71 c_72 rec_4 v1 v2 v3 h = some r) : G X d 71 34 [some (.ref 21), some (.int v1), some (.int v2), some (.int v3)] [] h := by
  unfold R_71_34 at e
  exact k_71_34 (hr_4 e)
noncomputable def R_71_28 (c_69 : Int32 → Hp → Option (Int32 × Hp)) (c_70 : Int32 → Hp → Option (Int32 × Hp)) (c_71 : Int32 → Hp → Option (Int32 × Hp)) (c_72 : Int32 → Hp → Option (Int32 × Hp)) (rec_4 : Int32 → Int32 → Int32 → Hp → Option (Int32 × Hp)) (v1 : Int32) (v3 : Int32) (h : Hp) : Option (Int32 × Hp) := bndV (S_68 h) (R_71_34 c_69 c_70 c_71 c_72 rec_4 v1 0 v3)
theorem r_71_28 {X : GX} {d : Nat} {r : Int32 × Hp} {c_69 : Int32 → Hp → Option (Int32 × Hp)} {c_70 : Int32 → Hp → Option (Int32 × Hp)} {c_71 : Int32 → Hp → Option (Int32 × Hp)} {c_72 : Int32 → Hp → Option (Int32 × Hp)} {dg : Nat} (hd : 3 ≤ d) (hgd : dg < d) (hc_69 : ∀ {v1 : Int32} {h : Hp} {r : Int32 × Hp}, c_69 v1 h = some r → CI dg 69 [.ref 21, .int v1] h (fun x g => x = r.1 ∧ g = r.2)) (hc_70 : ∀ {v1 : Int32} {h : Hp} {r : Int32 × Hp}, c_70 v1 h = some r → CI dg 70 [.ref 21, .int v1] h (fun x g => x = r.1 ∧ g = r.2)) (hc_71 : ∀ {v1 : Int32} {h : Hp} {r : Int32 × Hp}, c_71 v1 h = some r → CI dg 71 [.ref 21, .int v1] h (fun x g => x = r.1 ∧ g = r.2)) (hc_72 : ∀ {v1 : Int32} {h : Hp} {r : Int32 × Hp}, c_72 v1 h = some r → CI dg 72 [.ref 21, .int v1] h (fun x g => x = r.1 ∧ g = r.2)) (hq : RtX X (some (.int r.1)) r.2) {rec_4 : Int32 → Int32 → Int32 → Hp → Option (Int32 × Hp)} (hr_4 : ∀ {v1 : Int32} {v2 : Int32} {v3 : Int32} {h : Hp}, rec_4 v1 v2 v3 h = some r → G X d 71 4 [some (.ref 21), some (.int v1), some (.int v2), some (.int v3)] [] h) {h : Hp} {v1 : Int32} {v3 : Int32} (e : R_71_28 c_69 c_70 c_71 c_72 rec_4 v1 v3 h = some r) : G X d 71 28 [some (.ref 21), some (.int v1), none, some (.int v3)] [] h := by
  unfold R_71_28 at e
  obtain ⟨x, h2, e1, e2⟩ := bndV_s e
  refine k_71_28 (by omega) (t_68 e1) ?_
  rintro _ rfl
  exact r_71_34 hd hgd hc_69 hc_70 hc_71 hc_72 hq hr_4 e2
noncomputable def R_71_24 (c_69 : Int32 → Hp → Option (Int32 × Hp)) (c_70 : Int32 → Hp → Option (Int32 × Hp)) (c_71 : Int32 → Hp → Option (Int32 × Hp)) (c_72 : Int32 → Hp → Option (Int32 × Hp)) (rec_4 : Int32 → Int32 → Int32 → Hp → Option (Int32 × Hp)) (v1 : Int32) (v3 : Int32) (h : Hp) : Option (Int32 × Hp) := bndV (S_68 h) (R_71_34 c_69 c_70 c_71 c_72 rec_4 v1 1 v3)
theorem r_71_24 {X : GX} {d : Nat} {r : Int32 × Hp} {c_69 : Int32 → Hp → Option (Int32 × Hp)} {c_70 : Int32 → Hp → Option (Int32 × Hp)} {c_71 : Int32 → Hp → Option (Int32 × Hp)} {c_72 : Int32 → Hp → Option (Int32 × Hp)} {dg : Nat} (hd : 3 ≤ d) (hgd : dg < d) (hc_69 : ∀ {v1 : Int32} {h : Hp} {r : Int32 × Hp}, c_69 v1 h = some r → CI dg 69 [.ref 21, .int v1] h (fun x g => x = r.1 ∧ g = r.2)) (hc_70 : ∀ {v1 : Int32} {h : Hp} {r : Int32 × Hp}, c_70 v1 h = some r → CI dg 70 [.ref 21, .int v1] h (fun x g => x = r.1 ∧ g = r.2)) (hc_71 : ∀ {v1 : Int32} {h : Hp} {r : Int32 × Hp}, c_71 v1 h = some r → CI dg 71 [.ref 21, .int v1] h (fun x g => x = r.1 ∧ g = r.2)) (hc_72 : ∀ {v1 : Int32} {h : Hp} {r : Int32 × Hp}, c_72 v1 h = some r → CI dg 72 [.ref 21, .int v1] h (fun x g => x = r.1 ∧ g = r.2)) (hq : RtX X (some (.int r.1)) r.2) {rec_4 : Int32 → Int32 → Int32 → Hp → Option (Int32 × Hp)} (hr_4 : ∀ {v1 : Int32} {v2 : Int32} {v3 : Int32} {h : Hp}, rec_4 v1 v2 v3 h = some r → G X d 71 4 [some (.ref 21), some (.int v1), some (.int v2), some (.int v3)] [] h) {h : Hp} {v1 : Int32} {v3 : Int32} (e : R_71_24 c_69 c_70 c_71 c_72 rec_4 v1 v3 h = some r) : G X d 71 24 [some (.ref 21), some (.int v1), none, some (.int v3)] [] h := by
  unfold R_71_24 at e
  obtain ⟨x, h2, e1, e2⟩ := bndV_s e
  refine k_71_24 (by omega) (t_68 e1) ?_
  rintro _ rfl
  exact r_71_34 hd hgd hc_69 hc_70 hc_71 hc_72 hq hr_4 e2
noncomputable def R_71_20 (c_69 : Int32 → Hp → Option (Int32 × Hp)) (c_70 : Int32 → Hp → Option (Int32 × Hp)) (c_71 : Int32 → Hp → Option (Int32 × Hp)) (c_72 : Int32 → Hp → Option (Int32 × Hp)) (rec_4 : Int32 → Int32 → Int32 → Hp → Option (Int32 × Hp)) (v1 : Int32) (v2 : Int32) (v3 : Int32) (h : Hp) : Option (Int32 × Hp) := if v2 = 0 then R_71_24 c_69 c_70 c_71 c_72 rec_4 v1 v3 h else R_71_28 c_69 c_70 c_71 c_72 rec_4 v1 v3 h
theorem r_71_20 {X : GX} {d : Nat} {r : Int32 × Hp} {c_69 : Int32 → Hp → Option (Int32 × Hp)} {c_70 : Int32 → Hp → Option (Int32 × Hp)} {c_71 : Int32 → Hp → Option (Int32 × Hp)} {c_72 : Int32 → Hp → Option (Int32 × Hp)} {dg : Nat} (hd : 3 ≤ d) (hgd : dg < d) (hc_69 : ∀ {v1 : Int32} {h : Hp} {r : Int32 × Hp}, c_69 v1 h = some r → CI dg 69 [.ref 21, .int v1] h (fun x g => x = r.1 ∧ g = r.2)) (hc_70 : ∀ {v1 : Int32} {h : Hp} {r : Int32 × Hp}, c_70 v1 h = some r → CI dg 70 [.ref 21, .int v1] h (fun x g => x = r.1 ∧ g = r.2)) (hc_71 : ∀ {v1 : Int32} {h : Hp} {r : Int32 × Hp}, c_71 v1 h = some r → CI dg 71 [.ref 21, .int v1] h (fun x g => x = r.1 ∧ g = r.2)) (hc_72 : ∀ {v1 : Int32} {h : Hp} {r : Int32 × Hp}, c_72 v1 h = some r → CI dg 72 [.ref 21, .int v1] h (fun x g => x = r.1 ∧ g = r.2)) (hq : RtX X (some (.int r.1)) r.2) {rec_4 : Int32 → Int32 → Int32 → Hp → Option (Int32 × Hp)} (hr_4 : ∀ {v1 : Int32} {v2 : Int32} {v3 : Int32} {h : Hp}, rec_4 v1 v2 v3 h = some r → G X d 71 4 [some (.ref 21), some (.int v1), some (.int v2), some (.int v3)] [] h) {h : Hp} {v1 : Int32} {v2 : Int32} {v3 : Int32} (e : R_71_20 c_69 c_70 c_71 c_72 rec_4 v1 v2 v3 h = some r) : G X d 71 20 [some (.ref 21), some (.int v1), some (.int v2), some (.int v3)] [] h := by
  unfold R_71_20 at e
  refine k_71_20 (fun c => ?_) (fun c => ?_)
  · rw [if_neg c] at e; exact r_71_28 hd hgd hc_69 hc_70 hc_71 hc_72 hq hr_4 e
  · rw [if_pos c] at e; exact r_71_24 hd hgd hc_69 hc_70 hc_71 hc_72 hq hr_4 e
noncomputable def R_71_11 (c_69 : Int32 → Hp → Option (Int32 × Hp)) (c_70 : Int32 → Hp → Option (Int32 × Hp)) (c_71 : Int32 → Hp → Option (Int32 × Hp)) (c_72 : Int32 → Hp → Option (Int32 × Hp)) (rec_4 : Int32 → Int32 → Int32 → Hp → Option (Int32 × Hp)) (v1 : Int32) (v2 : Int32) (v3 : Int32) (h : Hp) : Option (Int32 × Hp) := if (h 21 8) = 10 then R_71_20 c_69 c_70 c_71 c_72 rec_4 v1 v2 v3 h else R_71_40 c_69 c_70 c_71 c_72 v1 v2 h
theorem r_71_11 {X : GX} {d : Nat} {r : Int32 × Hp} {c_69 : Int32 → Hp → Option (Int32 × Hp)} {c_70 : Int32 → Hp → Option (Int32 × Hp)} {c_71 : Int32 → Hp → Option (Int32 × Hp)} {c_72 : Int32 → Hp → Option (Int32 × Hp)} {dg : Nat} (hd : 3 ≤ d) (hgd : dg < d) (hc_69 : ∀ {v1 : Int32} {h : Hp} {r : Int32 × Hp}, c_69 v1 h = some r → CI dg 69 [.ref 21, .int v1] h (fun x g => x = r.1 ∧ g = r.2)) (hc_70 : ∀ {v1 : Int32} {h : Hp} {r : Int32 × Hp}, c_70 v1 h = some r → CI dg 70 [.ref 21, .int v1] h (fun x g => x = r.1 ∧ g = r.2)) (hc_71 : ∀ {v1 : Int32} {h : Hp} {r : Int32 × Hp}, c_71 v1 h = some r → CI dg 71 [.ref 21, .int v1] h (fun x g => x = r.1 ∧ g = r.2)) (hc_72 : ∀ {v1 : Int32} {h : Hp} {r : Int32 × Hp}, c_72 v1 h = some r → CI dg 72 [.ref 21, .int v1] h (fun x g => x = r.1 ∧ g = r.2)) (hq : RtX X (some (.int r.1)) r.2) {rec_4 : Int32 → Int32 → Int32 → Hp → Option (Int32 × Hp)} (hr_4 : ∀ {v1 : Int32} {v2 : Int32} {v3 : Int32} {h : Hp}, rec_4 v1 v2 v3 h = some r → G X d 71 4 [some (.ref 21), some (.int v1), some (.int v2), some (.int v3)] [] h) {h : Hp} {v1 : Int32} {v2 : Int32} {v3 : Int32} (e : R_71_11 c_69 c_70 c_71 c_72 rec_4 v1 v2 v3 h = some r) : G X d 71 11 [some (.ref 21), some (.int v1), some (.int v2), some (.int v3)] [] h := by
  unfold R_71_11 at e
  refine k_71_11 (fun c => ?_) (fun c => ?_)
  · rw [if_neg c] at e; exact r_71_40 hd hgd hc_69 hc_70 hc_71 hc_72 hq e
  · rw [if_pos c] at e; exact r_71_20 hd hgd hc_69 hc_70 hc_71 hc_72 hq hr_4 e
noncomputable def R_71_4 (c_69 : Int32 → Hp → Option (Int32 × Hp)) (c_70 : Int32 → Hp → Option (Int32 × Hp)) (c_71 : Int32 → Hp → Option (Int32 × Hp)) (c_72 : Int32 → Hp → Option (Int32 × Hp)) (rec_4 : Int32 → Int32 → Int32 → Hp → Option (Int32 × Hp)) (v1 : Int32) (v2 : Int32) (v3 : Int32) (h : Hp) : Option (Int32 × Hp) := if 200 ≤ v3 then R_71_40 c_69 c_70 c_71 c_72 v1 v2 h else R_71_11 c_69 c_70 c_71 c_72 rec_4 v1 v2 v3 h
theorem r_71_4 {X : GX} {d : Nat} {r : Int32 × Hp} {c_69 : Int32 → Hp → Option (Int32 × Hp)} {c_70 : Int32 → Hp → Option (Int32 × Hp)} {c_71 : Int32 → Hp → Option (Int32 × Hp)} {c_72 : Int32 → Hp → Option (Int32 × Hp)} {dg : Nat} (hd : 3 ≤ d) (hgd : dg < d) (hc_69 : ∀ {v1 : Int32} {h : Hp} {r : Int32 × Hp}, c_69 v1 h = some r → CI dg 69 [.ref 21, .int v1] h (fun x g => x = r.1 ∧ g = r.2)) (hc_70 : ∀ {v1 : Int32} {h : Hp} {r : Int32 × Hp}, c_70 v1 h = some r → CI dg 70 [.ref 21, .int v1] h (fun x g => x = r.1 ∧ g = r.2)) (hc_71 : ∀ {v1 : Int32} {h : Hp} {r : Int32 × Hp}, c_71 v1 h = some r → CI dg 71 [.ref 21, .int v1] h (fun x g => x = r.1 ∧ g = r.2)) (hc_72 : ∀ {v1 : Int32} {h : Hp} {r : Int32 × Hp}, c_72 v1 h = some r → CI dg 72 [.ref 21, .int v1] h (fun x g => x = r.1 ∧ g = r.2)) (hq : RtX X (some (.int r.1)) r.2) {rec_4 : Int32 → Int32 → Int32 → Hp → Option (Int32 × Hp)} (hr_4 : ∀ {v1 : Int32} {v2 : Int32} {v3 : Int32} {h : Hp}, rec_4 v1 v2 v3 h = some r → G X d 71 4 [some (.ref 21), some (.int v1), some (.int v2), some (.int v3)] [] h) {h : Hp} {v1 : Int32} {v2 : Int32} {v3 : Int32} (e : R_71_4 c_69 c_70 c_71 c_72 rec_4 v1 v2 v3 h = some r) : G X d 71 4 [some (.ref 21), some (.int v1), some (.int v2), some (.int v3)] [] h := by
  unfold R_71_4 at e
  refine k_71_4 (fun c => ?_) (fun c => ?_)
  · rw [if_pos c] at e; exact r_71_40 hd hgd hc_69 hc_70 hc_71 hc_72 hq e
  · rw [if_neg c] at e; exact r_71_11 hd hgd hc_69 hc_70 hc_71 hc_72 hq hr_4 e
noncomputable def H_71_4 (c_69 : Int32 → Hp → Option (Int32 × Hp)) (c_70 : Int32 → Hp → Option (Int32 × Hp)) (c_71 : Int32 → Hp → Option (Int32 × Hp)) (c_72 : Int32 → Hp → Option (Int32 × Hp)) : Nat → Int32 → Int32 → Int32 → Hp → Option (Int32 × Hp)
  | 0, _, _, _, _ => none
  | n + 1, v1, v2, v3, h => R_71_4 c_69 c_70 c_71 c_72 (H_71_4 c_69 c_70 c_71 c_72 n) v1 v2 v3 h
theorem h_71_4 {X : GX} {d : Nat} {r : Int32 × Hp} {c_69 : Int32 → Hp → Option (Int32 × Hp)} {c_70 : Int32 → Hp → Option (Int32 × Hp)} {c_71 : Int32 → Hp → Option (Int32 × Hp)} {c_72 : Int32 → Hp → Option (Int32 × Hp)} {dg : Nat} (hd : 3 ≤ d) (hgd : dg < d) (hc_69 : ∀ {v1 : Int32} {h : Hp} {r : Int32 × Hp}, c_69 v1 h = some r → CI dg 69 [.ref 21, .int v1] h (fun x g => x = r.1 ∧ g = r.2)) (hc_70 : ∀ {v1 : Int32} {h : Hp} {r : Int32 × Hp}, c_70 v1 h = some r → CI dg 70 [.ref 21, .int v1] h (fun x g => x = r.1 ∧ g = r.2)) (hc_71 : ∀ {v1 : Int32} {h : Hp} {r : Int32 × Hp}, c_71 v1 h = some r → CI dg 71 [.ref 21, .int v1] h (fun x g => x = r.1 ∧ g = r.2)) (hc_72 : ∀ {v1 : Int32} {h : Hp} {r : Int32 × Hp}, c_72 v1 h = some r → CI dg 72 [.ref 21, .int v1] h (fun x g => x = r.1 ∧ g = r.2)) (hq : RtX X (some (.int r.1)) r.2) {n : Nat} {h : Hp} {v1 : Int32} {v2 : Int32} {v3 : Int32} (e : H_71_4 c_69 c_70 c_71 c_72 n v1 v2 v3 h = some r) : G X d 71 4 [some (.ref 21), some (.int v1), some (.int v2), some (.int v3)] [] h := by
  induction n generalizing v1 v2 v3 h with
  | zero => cases e
  | succ n ih => exact r_71_4 hd hgd hc_69 hc_70 hc_71 hc_72 hq (fun e => ih e) e
noncomputable def R_71_0 (c_69 : Int32 → Hp → Option (Int32 × Hp)) (c_70 : Int32 → Hp → Option (Int32 × Hp)) (c_71 : Int32 → Hp → Option (Int32 × Hp)) (c_72 : Int32 → Hp → Option (Int32 × Hp)) (v1 : Int32) (h : Hp) : Option (Int32 × Hp) := H_71_4 c_69 c_70 c_71 c_72 fuL v1 0 0 h
theorem r_71_0 {X : GX} {d : Nat} {r : Int32 × Hp} {c_69 : Int32 → Hp → Option (Int32 × Hp)} {c_70 : Int32 → Hp → Option (Int32 × Hp)} {c_71 : Int32 → Hp → Option (Int32 × Hp)} {c_72 : Int32 → Hp → Option (Int32 × Hp)} {dg : Nat} (hd : 3 ≤ d) (hgd : dg < d) (hc_69 : ∀ {v1 : Int32} {h : Hp} {r : Int32 × Hp}, c_69 v1 h = some r → CI dg 69 [.ref 21, .int v1] h (fun x g => x = r.1 ∧ g = r.2)) (hc_70 : ∀ {v1 : Int32} {h : Hp} {r : Int32 × Hp}, c_70 v1 h = some r → CI dg 70 [.ref 21, .int v1] h (fun x g => x = r.1 ∧ g = r.2)) (hc_71 : ∀ {v1 : Int32} {h : Hp} {r : Int32 × Hp}, c_71 v1 h = some r → CI dg 71 [.ref 21, .int v1] h (fun x g => x = r.1 ∧ g = r.2)) (hc_72 : ∀ {v1 : Int32} {h : Hp} {r : Int32 × Hp}, c_72 v1 h = some r → CI dg 72 [.ref 21, .int v1] h (fun x g => x = r.1 ∧ g = r.2)) (hq : RtX X (some (.int r.1)) r.2) {h : Hp} {v1 : Int32} (e : R_71_0 c_69 c_70 c_71 c_72 v1 h = some r) : G X d 71 0 [some (.ref 21), some (.int v1), none, none] [] h := by
  unfold R_71_0 at e
  exact k_71_0 (h_71_4 hd hgd hc_69 hc_70 hc_71 hc_72 hq e)
/-! 72 PlayedTruth$RuleReader.readBracket(I)Z -/
noncomputable def R_72_44 (c_69 : Int32 → Hp → Option (Int32 × Hp)) (c_70 : Int32 → Hp → Option (Int32 × Hp)) (c_71 : Int32 → Hp → Option (Int32 × Hp)) (c_72 : Int32 → Hp → Option (Int32 × Hp)) (h : Hp) : Option (Int32 × Hp) := some (1, h)
theorem r_72_44 {X : GX} {d : Nat} {r : Int32 × Hp} {c_69 : Int32 → Hp → Option (Int32 × Hp)} {c_70 : Int32 → Hp → Option (Int32 × Hp)} {c_71 : Int32 → Hp → Option (Int32 × Hp)} {c_72 : Int32 → Hp → Option (Int32 × Hp)} {dg : Nat} (hd : 3 ≤ d) (hgd : dg < d) (hc_69 : ∀ {v1 : Int32} {h : Hp} {r : Int32 × Hp}, c_69 v1 h = some r → CI dg 69 [.ref 21, .int v1] h (fun x g => x = r.1 ∧ g = r.2)) (hc_70 : ∀ {v1 : Int32} {h : Hp} {r : Int32 × Hp}, c_70 v1 h = some r → CI dg 70 [.ref 21, .int v1] h (fun x g => x = r.1 ∧ g = r.2)) (hc_71 : ∀ {v1 : Int32} {h : Hp} {r : Int32 × Hp}, c_71 v1 h = some r → CI dg 71 [.ref 21, .int v1] h (fun x g => x = r.1 ∧ g = r.2)) (hc_72 : ∀ {v1 : Int32} {h : Hp} {r : Int32 × Hp}, c_72 v1 h = some r → CI dg 72 [.ref 21, .int v1] h (fun x g => x = r.1 ∧ g = r.2)) (hq : RtX X (some (.int r.1)) r.2) {h : Hp} (e : R_72_44 c_69 c_70 c_71 c_72 h = some r) : G X d 72 44 [none, none] [] h := by
  unfold R_72_44 at e
  rw [← Option.some.inj e] at hq
  exact k_72_44 hq
noncomputable def R_72_40 (c_69 : Int32 → Hp → Option (Int32 × Hp)) (c_70 : Int32 → Hp → Option (Int32 × Hp)) (c_71 : Int32 → Hp → Option (Int32 × Hp)) (c_72 : Int32 → Hp → Option (Int32 × Hp)) (h : Hp) : Option (Int32 × Hp) := bndV (S_68 h) (R_72_44 c_69 c_70 c_71 c_72)
theorem r_72_40 {X : GX} {d : Nat} {r : Int32 × Hp} {c_69 : Int32 → Hp → Option (Int32 × Hp)} {c_70 : Int32 → Hp → Option (Int32 × Hp)} {c_71 : Int32 → Hp → Option (Int32 × Hp)} {c_72 : Int32 → Hp → Option (Int32 × Hp)} {dg : Nat} (hd : 3 ≤ d) (hgd : dg < d) (hc_69 : ∀ {v1 : Int32} {h : Hp} {r : Int32 × Hp}, c_69 v1 h = some r → CI dg 69 [.ref 21, .int v1] h (fun x g => x = r.1 ∧ g = r.2)) (hc_70 : ∀ {v1 : Int32} {h : Hp} {r : Int32 × Hp}, c_70 v1 h = some r → CI dg 70 [.ref 21, .int v1] h (fun x g => x = r.1 ∧ g = r.2)) (hc_71 : ∀ {v1 : Int32} {h : Hp} {r : Int32 × Hp}, c_71 v1 h = some r → CI dg 71 [.ref 21, .int v1] h (fun x g => x = r.1 ∧ g = r.2)) (hc_72 : ∀ {v1 : Int32} {h : Hp} {r : Int32 × Hp}, c_72 v1 h = some r → CI dg 72 [.ref 21, .int v1] h (fun x g => x = r.1 ∧ g = r.2)) (hq : RtX X (some (.int r.1)) r.2) {h : Hp} (e : R_72_40 c_69 c_70 c_71 c_72 h = some r) : G X d 72 40 [some (.ref 21), none] [] h := by
  unfold R_72_40 at e
  obtain ⟨x, h2, e1, e2⟩ := bndV_s e
  refine k_72_40 (by omega) (t_68 e1) ?_
  rintro _ rfl
  exact r_72_44 hd hgd hc_69 hc_70 hc_71 hc_72 hq e2
noncomputable def R_72_39 (c_69 : Int32 → Hp → Option (Int32 × Hp)) (c_70 : Int32 → Hp → Option (Int32 × Hp)) (c_71 : Int32 → Hp → Option (Int32 × Hp)) (c_72 : Int32 → Hp → Option (Int32 × Hp)) (s0 : Int32) (h : Hp) : Option (Int32 × Hp) := gd (s0 = 0 ∨ s0 = 1) (some (s0, h))
theorem r_72_39 {X : GX} {d : Nat} {r : Int32 × Hp} {c_69 : Int32 → Hp → Option (Int32 × Hp)} {c_70 : Int32 → Hp → Option (Int32 × Hp)} {c_71 : Int32 → Hp → Option (Int32 × Hp)} {c_72 : Int32 → Hp → Option (Int32 × Hp)} {dg : Nat} (hd : 3 ≤ d) (hgd : dg < d) (hc_69 : ∀ {v1 : Int32} {h : Hp} {r : Int32 × Hp}, c_69 v1 h = some r → CI dg 69 [.ref 21, .int v1] h (fun x g => x = r.1 ∧ g = r.2)) (hc_70 : ∀ {v1 : Int32} {h : Hp} {r : Int32 × Hp}, c_70 v1 h = some r → CI dg 70 [.ref 21, .int v1] h (fun x g => x = r.1 ∧ g = r.2)) (hc_71 : ∀ {v1 : Int32} {h : Hp} {r : Int32 × Hp}, c_71 v1 h = some r → CI dg 71 [.ref 21, .int v1] h (fun x g => x = r.1 ∧ g = r.2)) (hc_72 : ∀ {v1 : Int32} {h : Hp} {r : Int32 × Hp}, c_72 v1 h = some r → CI dg 72 [.ref 21, .int v1] h (fun x g => x = r.1 ∧ g = r.2)) (hq : RtX X (some (.int r.1)) r.2) {h : Hp} {s0 : Int32} (e : R_72_39 c_69 c_70 c_71 c_72 s0 h = some r) : G X d 72 39 [none, none] [.int s0] h := by
  unfold R_72_39 at e
  have g := gd_s e; clear e; obtain ⟨z0, e⟩ := g
  rw [← Option.some.inj e] at hq
  exact k_72_39 z0 hq
noncomputable def R_72_35 (c_69 : Int32 → Hp → Option (Int32 × Hp)) (c_70 : Int32 → Hp → Option (Int32 × Hp)) (c_71 : Int32 → Hp → Option (Int32 × Hp)) (c_72 : Int32 → Hp → Option (Int32 × Hp)) (h : Hp) : Option (Int32 × Hp) := bndI (S_67 h) (R_72_39 c_69 c_70 c_71 c_72)
theorem r_72_35 {X : GX} {d : Nat} {r : Int32 × Hp} {c_69 : Int32 → Hp → Option (Int32 × Hp)} {c_70 : Int32 → Hp → Option (Int32 × Hp)} {c_71 : Int32 → Hp → Option (Int32 × Hp)} {c_72 : Int32 → Hp → Option (Int32 × Hp)} {dg : Nat} (hd : 3 ≤ d) (hgd : dg < d) (hc_69 : ∀ {v1 : Int32} {h : Hp} {r : Int32 × Hp}, c_69 v1 h = some r → CI dg 69 [.ref 21, .int v1] h (fun x g => x = r.1 ∧ g = r.2)) (hc_70 : ∀ {v1 : Int32} {h : Hp} {r : Int32 × Hp}, c_70 v1 h = some r → CI dg 70 [.ref 21, .int v1] h (fun x g => x = r.1 ∧ g = r.2)) (hc_71 : ∀ {v1 : Int32} {h : Hp} {r : Int32 × Hp}, c_71 v1 h = some r → CI dg 71 [.ref 21, .int v1] h (fun x g => x = r.1 ∧ g = r.2)) (hc_72 : ∀ {v1 : Int32} {h : Hp} {r : Int32 × Hp}, c_72 v1 h = some r → CI dg 72 [.ref 21, .int v1] h (fun x g => x = r.1 ∧ g = r.2)) (hq : RtX X (some (.int r.1)) r.2) {h : Hp} (e : R_72_35 c_69 c_70 c_71 c_72 h = some r) : G X d 72 35 [some (.ref 21), none] [] h := by
  unfold R_72_35 at e
  obtain ⟨x, h2, e1, e2⟩ := bndI_s e
  refine k_72_35 (by omega) (t_67 e1) ?_
  rintro _ _ ⟨rfl, rfl⟩
  exact r_72_39 hd hgd hc_69 hc_70 hc_71 hc_72 hq e2
noncomputable def R_72_26 (c_69 : Int32 → Hp → Option (Int32 × Hp)) (c_70 : Int32 → Hp → Option (Int32 × Hp)) (c_71 : Int32 → Hp → Option (Int32 × Hp)) (c_72 : Int32 → Hp → Option (Int32 × Hp)) (h : Hp) : Option (Int32 × Hp) := if (h 21 8) = 24 then R_72_40 c_69 c_70 c_71 c_72 h else R_72_35 c_69 c_70 c_71 c_72 h
theorem r_72_26 {X : GX} {d : Nat} {r : Int32 × Hp} {c_69 : Int32 → Hp → Option (Int32 × Hp)} {c_70 : Int32 → Hp → Option (Int32 × Hp)} {c_71 : Int32 → Hp → Option (Int32 × Hp)} {c_72 : Int32 → Hp → Option (Int32 × Hp)} {dg : Nat} (hd : 3 ≤ d) (hgd : dg < d) (hc_69 : ∀ {v1 : Int32} {h : Hp} {r : Int32 × Hp}, c_69 v1 h = some r → CI dg 69 [.ref 21, .int v1] h (fun x g => x = r.1 ∧ g = r.2)) (hc_70 : ∀ {v1 : Int32} {h : Hp} {r : Int32 × Hp}, c_70 v1 h = some r → CI dg 70 [.ref 21, .int v1] h (fun x g => x = r.1 ∧ g = r.2)) (hc_71 : ∀ {v1 : Int32} {h : Hp} {r : Int32 × Hp}, c_71 v1 h = some r → CI dg 71 [.ref 21, .int v1] h (fun x g => x = r.1 ∧ g = r.2)) (hc_72 : ∀ {v1 : Int32} {h : Hp} {r : Int32 × Hp}, c_72 v1 h = some r → CI dg 72 [.ref 21, .int v1] h (fun x g => x = r.1 ∧ g = r.2)) (hq : RtX X (some (.int r.1)) r.2) {h : Hp} (e : R_72_26 c_69 c_70 c_71 c_72 h = some r) : G X d 72 26 [some (.ref 21), none] [] h := by
  unfold R_72_26 at e
  refine k_72_26 (fun c => ?_) (fun c => ?_)
  · rw [if_pos c] at e; exact r_72_40 hd hgd hc_69 hc_70 hc_71 hc_72 hq e
  · rw [if_neg c] at e; exact r_72_35 hd hgd hc_69 hc_70 hc_71 hc_72 hq e
noncomputable def R_72_24 (c_69 : Int32 → Hp → Option (Int32 × Hp)) (c_70 : Int32 → Hp → Option (Int32 × Hp)) (c_71 : Int32 → Hp → Option (Int32 × Hp)) (c_72 : Int32 → Hp → Option (Int32 × Hp)) (h : Hp) : Option (Int32 × Hp) := some (0, h)
theorem r_72_24 {X : GX} {d : Nat} {r : Int32 × Hp} {c_69 : Int32 → Hp → Option (Int32 × Hp)} {c_70 : Int32 → Hp → Option (Int32 × Hp)} {c_71 : Int32 → Hp → Option (Int32 × Hp)} {c_72 : Int32 → Hp → Option (Int32 × Hp)} {dg : Nat} (hd : 3 ≤ d) (hgd : dg < d) (hc_69 : ∀ {v1 : Int32} {h : Hp} {r : Int32 × Hp}, c_69 v1 h = some r → CI dg 69 [.ref 21, .int v1] h (fun x g => x = r.1 ∧ g = r.2)) (hc_70 : ∀ {v1 : Int32} {h : Hp} {r : Int32 × Hp}, c_70 v1 h = some r → CI dg 70 [.ref 21, .int v1] h (fun x g => x = r.1 ∧ g = r.2)) (hc_71 : ∀ {v1 : Int32} {h : Hp} {r : Int32 × Hp}, c_71 v1 h = some r → CI dg 71 [.ref 21, .int v1] h (fun x g => x = r.1 ∧ g = r.2)) (hc_72 : ∀ {v1 : Int32} {h : Hp} {r : Int32 × Hp}, c_72 v1 h = some r → CI dg 72 [.ref 21, .int v1] h (fun x g => x = r.1 ∧ g = r.2)) (hq : RtX X (some (.int r.1)) r.2) {h : Hp} (e : R_72_24 c_69 c_70 c_71 c_72 h = some r) : G X d 72 24 [none, none] [] h := by
  unfold R_72_24 at e
  rw [← Option.some.inj e] at hq
  exact k_72_24 hq
noncomputable def R_72_21 (c_69 : Int32 → Hp → Option (Int32 × Hp)) (c_70 : Int32 → Hp → Option (Int32 × Hp)) (c_71 : Int32 → Hp → Option (Int32 × Hp)) (c_72 : Int32 → Hp → Option (Int32 × Hp)) (s0 : Int32) (h : Hp) : Option (Int32 × Hp) := if s0 = 0 then R_72_24 c_69 c_70 c_71 c_72 h else R_72_26 c_69 c_70 c_71 c_72 h
theorem r_72_21 {X : GX} {d : Nat} {r : Int32 × Hp} {c_69 : Int32 → Hp → Option (Int32 × Hp)} {c_70 : Int32 → Hp → Option (Int32 × Hp)} {c_71 : Int32 → Hp → Option (Int32 × Hp)} {c_72 : Int32 → Hp → Option (Int32 × Hp)} {dg : Nat} (hd : 3 ≤ d) (hgd : dg < d) (hc_69 : ∀ {v1 : Int32} {h : Hp} {r : Int32 × Hp}, c_69 v1 h = some r → CI dg 69 [.ref 21, .int v1] h (fun x g => x = r.1 ∧ g = r.2)) (hc_70 : ∀ {v1 : Int32} {h : Hp} {r : Int32 × Hp}, c_70 v1 h = some r → CI dg 70 [.ref 21, .int v1] h (fun x g => x = r.1 ∧ g = r.2)) (hc_71 : ∀ {v1 : Int32} {h : Hp} {r : Int32 × Hp}, c_71 v1 h = some r → CI dg 71 [.ref 21, .int v1] h (fun x g => x = r.1 ∧ g = r.2)) (hc_72 : ∀ {v1 : Int32} {h : Hp} {r : Int32 × Hp}, c_72 v1 h = some r → CI dg 72 [.ref 21, .int v1] h (fun x g => x = r.1 ∧ g = r.2)) (hq : RtX X (some (.int r.1)) r.2) {h : Hp} {s0 : Int32} (e : R_72_21 c_69 c_70 c_71 c_72 s0 h = some r) : G X d 72 21 [some (.ref 21), none] [.int s0] h := by
  unfold R_72_21 at e
  refine k_72_21 (fun c => ?_) (fun c => ?_)
  · rw [if_neg c] at e; exact r_72_26 hd hgd hc_69 hc_70 hc_71 hc_72 hq e
  · rw [if_pos c] at e; exact r_72_24 hd hgd hc_69 hc_70 hc_71 hc_72 hq e
noncomputable def R_72_14 (c_69 : Int32 → Hp → Option (Int32 × Hp)) (c_70 : Int32 → Hp → Option (Int32 × Hp)) (c_71 : Int32 → Hp → Option (Int32 × Hp)) (c_72 : Int32 → Hp → Option (Int32 × Hp)) (v1 : Int32) (h : Hp) : Option (Int32 × Hp) := bndI (c_69 (v1 + 1) h) (R_72_21 c_69 c_70 c_71 c_72)
theorem r_72_14 {X : GX} {d : Nat} {r : Int32 × Hp} {c_69 : Int32 → Hp → Option (Int32 × Hp)} {c_70 : Int32 → Hp → Option (Int32 × Hp)} {c_71 : Int32 → Hp → Option (Int32 × Hp)} {c_72 : Int32 → Hp → Option (Int32 × Hp)} {dg : Nat} (hd : 3 ≤ d) (hgd : dg < d) (hc_69 : ∀ {v1 : Int32} {h : Hp} {r : Int32 × Hp}, c_69 v1 h = some r → CI dg 69 [.ref 21, .int v1] h (fun x g => x = r.1 ∧ g = r.2)) (hc_70 : ∀ {v1 : Int32} {h : Hp} {r : Int32 × Hp}, c_70 v1 h = some r → CI dg 70 [.ref 21, .int v1] h (fun x g => x = r.1 ∧ g = r.2)) (hc_71 : ∀ {v1 : Int32} {h : Hp} {r : Int32 × Hp}, c_71 v1 h = some r → CI dg 71 [.ref 21, .int v1] h (fun x g => x = r.1 ∧ g = r.2)) (hc_72 : ∀ {v1 : Int32} {h : Hp} {r : Int32 × Hp}, c_72 v1 h = some r → CI dg 72 [.ref 21, .int v1] h (fun x g => x = r.1 ∧ g = r.2)) (hq : RtX X (some (.int r.1)) r.2) {h : Hp} {v1 : Int32} (e : R_72_14 c_69 c_70 c_71 c_72 v1 h = some r) : G X d 72 14 [some (.ref 21), some (.int v1)] [] h := by
  unfold R_72_14 at e
  obtain ⟨x, h2, e1, e2⟩ := bndI_s e
  refine k_72_14 hgd (hc_69 e1) ?_
  rintro _ _ ⟨rfl, rfl⟩
  exact r_72_21 hd hgd hc_69 hc_70 hc_71 hc_72 hq e2
noncomputable def R_72_10 (c_69 : Int32 → Hp → Option (Int32 × Hp)) (c_70 : Int32 → Hp → Option (Int32 × Hp)) (c_71 : Int32 → Hp → Option (Int32 × Hp)) (c_72 : Int32 → Hp → Option (Int32 × Hp)) (v1 : Int32) (h : Hp) : Option (Int32 × Hp) := bndV (S_68 h) (R_72_14 c_69 c_70 c_71 c_72 v1)
theorem r_72_10 {X : GX} {d : Nat} {r : Int32 × Hp} {c_69 : Int32 → Hp → Option (Int32 × Hp)} {c_70 : Int32 → Hp → Option (Int32 × Hp)} {c_71 : Int32 → Hp → Option (Int32 × Hp)} {c_72 : Int32 → Hp → Option (Int32 × Hp)} {dg : Nat} (hd : 3 ≤ d) (hgd : dg < d) (hc_69 : ∀ {v1 : Int32} {h : Hp} {r : Int32 × Hp}, c_69 v1 h = some r → CI dg 69 [.ref 21, .int v1] h (fun x g => x = r.1 ∧ g = r.2)) (hc_70 : ∀ {v1 : Int32} {h : Hp} {r : Int32 × Hp}, c_70 v1 h = some r → CI dg 70 [.ref 21, .int v1] h (fun x g => x = r.1 ∧ g = r.2)) (hc_71 : ∀ {v1 : Int32} {h : Hp} {r : Int32 × Hp}, c_71 v1 h = some r → CI dg 71 [.ref 21, .int v1] h (fun x g => x = r.1 ∧ g = r.2)) (hc_72 : ∀ {v1 : Int32} {h : Hp} {r : Int32 × Hp}, c_72 v1 h = some r → CI dg 72 [.ref 21, .int v1] h (fun x g => x = r.1 ∧ g = r.2)) (hq : RtX X (some (.int r.1)) r.2) {h : Hp} {v1 : Int32} (e : R_72_10 c_69 c_70 c_71 c_72 v1 h = some r) : G X d 72 10 [some (.ref 21), some (.int v1)] [] h := by
  unfold R_72_10 at e
  obtain ⟨x, h2, e1, e2⟩ := bndV_s e
  refine k_72_10 (by omega) (t_68 e1) ?_
  rintro _ rfl
  exact r_72_14 hd hgd hc_69 hc_70 hc_71 hc_72 hq e2
noncomputable def R_72_9 (c_69 : Int32 → Hp → Option (Int32 × Hp)) (c_70 : Int32 → Hp → Option (Int32 × Hp)) (c_71 : Int32 → Hp → Option (Int32 × Hp)) (c_72 : Int32 → Hp → Option (Int32 × Hp)) (s0 : Int32) (h : Hp) : Option (Int32 × Hp) := gd (s0 = 0 ∨ s0 = 1) (some (s0, h))
theorem r_72_9 {X : GX} {d : Nat} {r : Int32 × Hp} {c_69 : Int32 → Hp → Option (Int32 × Hp)} {c_70 : Int32 → Hp → Option (Int32 × Hp)} {c_71 : Int32 → Hp → Option (Int32 × Hp)} {c_72 : Int32 → Hp → Option (Int32 × Hp)} {dg : Nat} (hd : 3 ≤ d) (hgd : dg < d) (hc_69 : ∀ {v1 : Int32} {h : Hp} {r : Int32 × Hp}, c_69 v1 h = some r → CI dg 69 [.ref 21, .int v1] h (fun x g => x = r.1 ∧ g = r.2)) (hc_70 : ∀ {v1 : Int32} {h : Hp} {r : Int32 × Hp}, c_70 v1 h = some r → CI dg 70 [.ref 21, .int v1] h (fun x g => x = r.1 ∧ g = r.2)) (hc_71 : ∀ {v1 : Int32} {h : Hp} {r : Int32 × Hp}, c_71 v1 h = some r → CI dg 71 [.ref 21, .int v1] h (fun x g => x = r.1 ∧ g = r.2)) (hc_72 : ∀ {v1 : Int32} {h : Hp} {r : Int32 × Hp}, c_72 v1 h = some r → CI dg 72 [.ref 21, .int v1] h (fun x g => x = r.1 ∧ g = r.2)) (hq : RtX X (some (.int r.1)) r.2) {h : Hp} {s0 : Int32} (e : R_72_9 c_69 c_70 c_71 c_72 s0 h = some r) : G X d 72 9 [none, none] [.int s0] h := by
  unfold R_72_9 at e
  have g := gd_s e; clear e; obtain ⟨z0, e⟩ := g
  rw [← Option.some.inj e] at hq
  exact k_72_9 z0 hq
noncomputable def R_72_5 (c_69 : Int32 → Hp → Option (Int32 × Hp)) (c_70 : Int32 → Hp → Option (Int32 × Hp)) (c_71 : Int32 → Hp → Option (Int32 × Hp)) (c_72 : Int32 → Hp → Option (Int32 × Hp)) (h : Hp) : Option (Int32 × Hp) := bndI (S_67 h) (R_72_9 c_69 c_70 c_71 c_72)
theorem r_72_5 {X : GX} {d : Nat} {r : Int32 × Hp} {c_69 : Int32 → Hp → Option (Int32 × Hp)} {c_70 : Int32 → Hp → Option (Int32 × Hp)} {c_71 : Int32 → Hp → Option (Int32 × Hp)} {c_72 : Int32 → Hp → Option (Int32 × Hp)} {dg : Nat} (hd : 3 ≤ d) (hgd : dg < d) (hc_69 : ∀ {v1 : Int32} {h : Hp} {r : Int32 × Hp}, c_69 v1 h = some r → CI dg 69 [.ref 21, .int v1] h (fun x g => x = r.1 ∧ g = r.2)) (hc_70 : ∀ {v1 : Int32} {h : Hp} {r : Int32 × Hp}, c_70 v1 h = some r → CI dg 70 [.ref 21, .int v1] h (fun x g => x = r.1 ∧ g = r.2)) (hc_71 : ∀ {v1 : Int32} {h : Hp} {r : Int32 × Hp}, c_71 v1 h = some r → CI dg 71 [.ref 21, .int v1] h (fun x g => x = r.1 ∧ g = r.2)) (hc_72 : ∀ {v1 : Int32} {h : Hp} {r : Int32 × Hp}, c_72 v1 h = some r → CI dg 72 [.ref 21, .int v1] h (fun x g => x = r.1 ∧ g = r.2)) (hq : RtX X (some (.int r.1)) r.2) {h : Hp} (e : R_72_5 c_69 c_70 c_71 c_72 h = some r) : G X d 72 5 [some (.ref 21), none] [] h := by
  unfold R_72_5 at e
  obtain ⟨x, h2, e1, e2⟩ := bndI_s e
  refine k_72_5 (by omega) (t_67 e1) ?_
  rintro _ _ ⟨rfl, rfl⟩
  exact r_72_9 hd hgd hc_69 hc_70 hc_71 hc_72 hq e2
noncomputable def R_72_0 (c_69 : Int32 → Hp → Option (Int32 × Hp)) (c_70 : Int32 → Hp → Option (Int32 × Hp)) (c_71 : Int32 → Hp → Option (Int32 × Hp)) (c_72 : Int32 → Hp → Option (Int32 × Hp)) (v1 : Int32) (h : Hp) : Option (Int32 × Hp) := if v1 < 3 then R_72_10 c_69 c_70 c_71 c_72 v1 h else R_72_5 c_69 c_70 c_71 c_72 h
theorem r_72_0 {X : GX} {d : Nat} {r : Int32 × Hp} {c_69 : Int32 → Hp → Option (Int32 × Hp)} {c_70 : Int32 → Hp → Option (Int32 × Hp)} {c_71 : Int32 → Hp → Option (Int32 × Hp)} {c_72 : Int32 → Hp → Option (Int32 × Hp)} {dg : Nat} (hd : 3 ≤ d) (hgd : dg < d) (hc_69 : ∀ {v1 : Int32} {h : Hp} {r : Int32 × Hp}, c_69 v1 h = some r → CI dg 69 [.ref 21, .int v1] h (fun x g => x = r.1 ∧ g = r.2)) (hc_70 : ∀ {v1 : Int32} {h : Hp} {r : Int32 × Hp}, c_70 v1 h = some r → CI dg 70 [.ref 21, .int v1] h (fun x g => x = r.1 ∧ g = r.2)) (hc_71 : ∀ {v1 : Int32} {h : Hp} {r : Int32 × Hp}, c_71 v1 h = some r → CI dg 71 [.ref 21, .int v1] h (fun x g => x = r.1 ∧ g = r.2)) (hc_72 : ∀ {v1 : Int32} {h : Hp} {r : Int32 × Hp}, c_72 v1 h = some r → CI dg 72 [.ref 21, .int v1] h (fun x g => x = r.1 ∧ g = r.2)) (hq : RtX X (some (.int r.1)) r.2) {h : Hp} {v1 : Int32} (e : R_72_0 c_69 c_70 c_71 c_72 v1 h = some r) : G X d 72 0 [some (.ref 21), some (.int v1)] [] h := by
  unfold R_72_0 at e
  refine k_72_0 (fun c => ?_) (fun c => ?_)
  · rw [if_pos c] at e; exact r_72_10 hd hgd hc_69 hc_70 hc_71 hc_72 hq e
  · rw [if_neg c] at e; exact r_72_5 hd hgd hc_69 hc_70 hc_71 hc_72 hq e
noncomputable def SG_69 : Nat → (Int32 → Hp → Option (Int32 × Hp)) × (Int32 → Hp → Option (Int32 × Hp)) × (Int32 → Hp → Option (Int32 × Hp)) × (Int32 → Hp → Option (Int32 × Hp))
  | 0 => (fun _ _ => none, fun _ _ => none, fun _ _ => none, fun _ _ => none)
  | n + 1 => (fun v1 h => R_69_0 (SG_69 n).1 (SG_69 n).2.1 (SG_69 n).2.2.1 (SG_69 n).2.2.2 v1 h, fun v1 h => R_70_0 (SG_69 n).1 (SG_69 n).2.1 (SG_69 n).2.2.1 (SG_69 n).2.2.2 v1 h, fun v1 h => R_71_0 (SG_69 n).1 (SG_69 n).2.1 (SG_69 n).2.2.1 (SG_69 n).2.2.2 v1 h, fun v1 h => R_72_0 (SG_69 n).1 (SG_69 n).2.1 (SG_69 n).2.2.1 (SG_69 n).2.2.2 v1 h)
set_option maxRecDepth 100000 in
theorem tg_69 : ∀ n, (∀ {v1 : Int32} {h : Hp} {r : Int32 × Hp}, (SG_69 n).1 v1 h = some r → CI (3 + n) 69 [.ref 21, .int v1] h (fun x g => x = r.1 ∧ g = r.2)) ∧ (∀ {v1 : Int32} {h : Hp} {r : Int32 × Hp}, (SG_69 n).2.1 v1 h = some r → CI (3 + n) 70 [.ref 21, .int v1] h (fun x g => x = r.1 ∧ g = r.2)) ∧ (∀ {v1 : Int32} {h : Hp} {r : Int32 × Hp}, (SG_69 n).2.2.1 v1 h = some r → CI (3 + n) 71 [.ref 21, .int v1] h (fun x g => x = r.1 ∧ g = r.2)) ∧ (∀ {v1 : Int32} {h : Hp} {r : Int32 × Hp}, (SG_69 n).2.2.2 v1 h = some r → CI (3 + n) 72 [.ref 21, .int v1] h (fun x g => x = r.1 ∧ g = r.2)) := by
  intro n
  induction n with
  | zero => exact ⟨(fun e => by cases e), (fun e => by cases e), (fun e => by cases e), (fun e => by cases e)⟩
  | succ n ih =>
    obtain ⟨i69, i70, i71, i72⟩ := ih
    refine ⟨fun {v1} {h} {r} e => ?_, fun {v1} {h} {r} e => ?_, fun {v1} {h} {r} e => ?_, fun {v1} {h} {r} e => ?_⟩
    · refine C.of mo_69 (Nat.le_of_ble_eq_true rfl) (fun X hq => ?_)
      exact r_69_0 (by omega) (show 3 + n < 3 + (n + 1) by omega) (fun e => i69 e) (fun e => i70 e) (fun e => i71 e) (fun e => i72 e) (hq _ _ ⟨_, rfl, rfl, rfl⟩) e
    · refine C.of mo_70 (Nat.le_of_ble_eq_true rfl) (fun X hq => ?_)
      exact r_70_0 (by omega) (show 3 + n < 3 + (n + 1) by omega) (fun e => i69 e) (fun e => i70 e) (fun e => i71 e) (fun e => i72 e) (hq _ _ ⟨_, rfl, rfl, rfl⟩) e
    · refine C.of mo_71 (Nat.le_of_ble_eq_true rfl) (fun X hq => ?_)
      exact r_71_0 (by omega) (show 3 + n < 3 + (n + 1) by omega) (fun e => i69 e) (fun e => i70 e) (fun e => i71 e) (fun e => i72 e) (hq _ _ ⟨_, rfl, rfl, rfl⟩) e
    · refine C.of mo_72 (Nat.le_of_ble_eq_true rfl) (fun X hq => ?_)
      exact r_72_0 (by omega) (show 3 + n < 3 + (n + 1) by omega) (fun e => i69 e) (fun e => i70 e) (fun e => i71 e) (fun e => i72 e) (hq _ _ ⟨_, rfl, rfl, rfl⟩) e
noncomputable def S_69 (v1 : Int32) (h : Hp) : Option (Int32 × Hp) := (SG_69 60).1 v1 h
theorem t_69 {v1 : Int32} {h : Hp} {r : Int32 × Hp} (e : S_69 v1 h = some r) : CI 63 69 [.ref 21, .int v1] h (fun x g => x = r.1 ∧ g = r.2) := (tg_69 60).1 e
noncomputable def S_70 (v1 : Int32) (h : Hp) : Option (Int32 × Hp) := (SG_69 60).2.1 v1 h
theorem t_70 {v1 : Int32} {h : Hp} {r : Int32 × Hp} (e : S_70 v1 h = some r) : CI 63 70 [.ref 21, .int v1] h (fun x g => x = r.1 ∧ g = r.2) := (tg_69 60).2.1 e
noncomputable def S_71 (v1 : Int32) (h : Hp) : Option (Int32 × Hp) := (SG_69 60).2.2.1 v1 h
theorem t_71 {v1 : Int32} {h : Hp} {r : Int32 × Hp} (e : S_71 v1 h = some r) : CI 63 71 [.ref 21, .int v1] h (fun x g => x = r.1 ∧ g = r.2) := (tg_69 60).2.2.1 e
noncomputable def S_72 (v1 : Int32) (h : Hp) : Option (Int32 × Hp) := (SG_69 60).2.2.2 v1 h
theorem t_72 {v1 : Int32} {h : Hp} {r : Int32 × Hp} (e : S_72 v1 h = some r) : CI 63 72 [.ref 21, .int v1] h (fun x g => x = r.1 ∧ g = r.2) := (tg_69 60).2.2.2 e
/-! 77 PlayedTruth$Rules.addRule(II)V -/
noncomputable def R_77_10 (v1 : Int32) (v2 : Int32) (h : Hp) : Option (Int32 × Hp) := gd (IA 24 (h 23 5) ∧ IA 25 ((wr h 24 (Int32.toNatClampNeg (h 23 5)) v1) 23 5) ∧ IA 26 ((wr (wr h 24 (Int32.toNatClampNeg (h 23 5)) v1) 25 (Int32.toNatClampNeg ((wr h 24 (Int32.toNatClampNeg (h 23 5)) v1) 23 5)) v2) 23 5)) (some (0, (wr (wr (wr (wr h 24 (Int32.toNatClampNeg (h 23 5)) v1) 25 (Int32.toNatClampNeg ((wr h 24 (Int32.toNatClampNeg (h 23 5)) v1) 23 5)) v2) 26 (Int32.toNatClampNeg ((wr (wr h 24 (Int32.toNatClampNeg (h 23 5)) v1) 25 (Int32.toNatClampNeg ((wr h 24 (Int32.toNatClampNeg (h 23 5)) v1) 23 5)) v2) 23 5)) ((wr (wr h 24 (Int32.toNatClampNeg (h 23 5)) v1) 25 (Int32.toNatClampNeg ((wr h 24 (Int32.toNatClampNeg (h 23 5)) v1) 23 5)) v2) 23 4)) 23 5 (((wr (wr (wr h 24 (Int32.toNatClampNeg (h 23 5)) v1) 25 (Int32.toNatClampNeg ((wr h 24 (Int32.toNatClampNeg (h 23 5)) v1) 23 5)) v2) 26 (Int32.toNatClampNeg ((wr (wr h 24 (Int32.toNatClampNeg (h 23 5)) v1) 25 (Int32.toNatClampNeg ((wr h 24 (Int32.toNatClampNeg (h 23 5)) v1) 23 5)) v2) 23 5)) ((wr (wr h 24 (Int32.toNatClampNeg (h 23 5)) v1) 25 (Int32.toNatClampNeg ((wr h 24 (Int32.toNatClampNeg (h 23 5)) v1) 23 5)) v2) 23 4)) 23 5) + 1))))
set_option maxRecDepth 100000 in
theorem r_77_10 {X : GX} {d : Nat} {r : Int32 × Hp} (hd : 1 ≤ d) (hq : RtX X none r.2) {h : Hp} {v1 : Int32} {v2 : Int32} (e : R_77_10 v1 v2 h = some r) : G X d 77 10 [some (.ref 23), some (.int v1), some (.int v2)] [] h := by
  unfold R_77_10 at e
  have g := gd_s e; clear e; obtain ⟨⟨b0, b1, b2⟩, e⟩ := g
  rw [← Option.some.inj e] at hq
  exact k_77_10 b0 b1 b2 hq
noncomputable def R_77_9 (h : Hp) : Option (Int32 × Hp) := some (0, h)
theorem r_77_9 {X : GX} {d : Nat} {r : Int32 × Hp} (hd : 1 ≤ d) (hq : RtX X none r.2) {h : Hp} (e : R_77_9 h = some r) : G X d 77 9 [none, none, none] [] h := by
  unfold R_77_9 at e
  rw [← Option.some.inj e] at hq
  exact k_77_9 hq
noncomputable def R_77_0 (v1 : Int32) (v2 : Int32) (h : Hp) : Option (Int32 × Hp) := if (h 23 5) < 8 then R_77_10 v1 v2 h else R_77_9 h
theorem r_77_0 {X : GX} {d : Nat} {r : Int32 × Hp} (hd : 1 ≤ d) (hq : RtX X none r.2) {h : Hp} {v1 : Int32} {v2 : Int32} (e : R_77_0 v1 v2 h = some r) : G X d 77 0 [some (.ref 23), some (.int v1), some (.int v2)] [] h := by
  unfold R_77_0 at e
  refine k_77_0 (fun c => ?_) (fun c => ?_)
  · rw [if_pos c] at e; exact r_77_10 hd hq e
  · rw [if_neg c] at e; exact r_77_9 hd hq e
noncomputable def S_77 (v1 : Int32) (v2 : Int32) (h : Hp) : Option (Int32 × Hp) := R_77_0 v1 v2 h
set_option maxRecDepth 100000 in
theorem t_77 {v1 : Int32} {v2 : Int32} {h : Hp} {r : Int32 × Hp} (e : S_77 v1 v2 h = some r) : CV 1 77 [.ref 23, .int v1, .int v2] h (fun g => g = r.2) := by
  refine C.of mo_77 (Nat.le_of_ble_eq_true rfl) (fun X hq => ?_)
  exact r_77_0 (Nat.le_refl _) (hq _ _ ⟨rfl, rfl⟩) e
/-! 66 PlayedTruth$RuleReader.readRule()Z -/
noncomputable def R_66_24 (s0 : Int32) (h : Hp) : Option (Int32 × Hp) := gd (s0 = 0 ∨ s0 = 1) (some (s0, h))
theorem r_66_24 {X : GX} {d : Nat} {r : Int32 × Hp} (hd : 64 ≤ d) (hq : RtX X (some (.int r.1)) r.2) {h : Hp} {s0 : Int32} (e : R_66_24 s0 h = some r) : G X d 66 24 [none, none, none] [.int s0] h := by
  unfold R_66_24 at e
  have g := gd_s e; clear e; obtain ⟨z0, e⟩ := g
  rw [← Option.some.inj e] at hq
  exact k_66_24 z0 hq
noncomputable def R_66_20 (h : Hp) : Option (Int32 × Hp) := bndI (S_67 h) (R_66_24)
theorem r_66_20 {X : GX} {d : Nat} {r : Int32 × Hp} (hd : 64 ≤ d) (hq : RtX X (some (.int r.1)) r.2) {h : Hp} (e : R_66_20 h = some r) : G X d 66 20 [some (.ref 21), none, none] [] h := by
  unfold R_66_20 at e
  obtain ⟨x, h2, e1, e2⟩ := bndI_s e
  refine k_66_20 (by omega) (t_67 e1) ?_
  rintro _ _ ⟨rfl, rfl⟩
  exact r_66_24 hd hq e2
noncomputable def R_66_79 (s0 : Int32) (h : Hp) : Option (Int32 × Hp) := gd (s0 = 0 ∨ s0 = 1) (some (s0, h))
theorem r_66_79 {X : GX} {d : Nat} {r : Int32 × Hp} (hd : 64 ≤ d) (hq : RtX X (some (.int r.1)) r.2) {h : Hp} {s0 : Int32} (e : R_66_79 s0 h = some r) : G X d 66 79 [none, none, none] [.int s0] h := by
  unfold R_66_79 at e
  have g := gd_s e; clear e; obtain ⟨z0, e⟩ := g
  rw [← Option.some.inj e] at hq
  exact k_66_79 z0 hq
noncomputable def R_66_75 (h : Hp) : Option (Int32 × Hp) := bndI (S_67 h) (R_66_79)
theorem r_66_75 {X : GX} {d : Nat} {r : Int32 × Hp} (hd : 64 ≤ d) (hq : RtX X (some (.int r.1)) r.2) {h : Hp} (e : R_66_75 h = some r) : G X d 66 75 [some (.ref 21), none, none] [] h := by
  unfold R_66_75 at e
  obtain ⟨x, h2, e1, e2⟩ := bndI_s e
  refine k_66_75 (by omega) (t_67 e1) ?_
  rintro _ _ ⟨rfl, rfl⟩
  exact r_66_79 hd hq e2
noncomputable def R_66_119 (h : Hp) : Option (Int32 × Hp) := some (1, h)
theorem r_66_119 {X : GX} {d : Nat} {r : Int32 × Hp} (hd : 64 ≤ d) (hq : RtX X (some (.int r.1)) r.2) {h : Hp} (e : R_66_119 h = some r) : G X d 66 119 [none, none, none] [] h := by
  unfold R_66_119 at e
  rw [← Option.some.inj e] at hq
  exact k_66_119 hq
noncomputable def R_66_110 (v1 : Int32) (v2 : Int32) (h : Hp) : Option (Int32 × Hp) := bndV (S_77 v1 v2 h) (R_66_119)
theorem r_66_110 {X : GX} {d : Nat} {r : Int32 × Hp} (hd : 64 ≤ d) (hq : RtX X (some (.int r.1)) r.2) {h : Hp} {v1 : Int32} {v2 : Int32} (e : R_66_110 v1 v2 h = some r) : G X d 66 110 [some (.ref 21), some (.int v1), some (.int v2)] [] h := by
  unfold R_66_110 at e
  obtain ⟨x, h2, e1, e2⟩ := bndV_s e
  refine k_66_110 (by omega) (t_77 e1) ?_
  rintro _ rfl
  exact r_66_119 hd hq e2
noncomputable def R_66_106 (v1 : Int32) (v2 : Int32) (h : Hp) : Option (Int32 × Hp) := bndV (S_68 h) (R_66_110 v1 v2)
theorem r_66_106 {X : GX} {d : Nat} {r : Int32 × Hp} (hd : 64 ≤ d) (hq : RtX X (some (.int r.1)) r.2) {h : Hp} {v1 : Int32} {v2 : Int32} (e : R_66_106 v1 v2 h = some r) : G X d 66 106 [some (.ref 21), some (.int v1), some (.int v2)] [] h := by
  unfold R_66_106 at e
  obtain ⟨x, h2, e1, e2⟩ := bndV_s e
  refine k_66_106 (by omega) (t_68 e1) ?_
  rintro _ rfl
  exact r_66_110 hd hq e2
noncomputable def R_66_105 (s0 : Int32) (h : Hp) : Option (Int32 × Hp) := gd (s0 = 0 ∨ s0 = 1) (some (s0, h))
theorem r_66_105 {X : GX} {d : Nat} {r : Int32 × Hp} (hd : 64 ≤ d) (hq : RtX X (some (.int r.1)) r.2) {h : Hp} {s0 : Int32} (e : R_66_105 s0 h = some r) : G X d 66 105 [none, none, none] [.int s0] h := by
  unfold R_66_105 at e
  have g := gd_s e; clear e; obtain ⟨z0, e⟩ := g
  rw [← Option.some.inj e] at hq
  exact k_66_105 z0 hq
noncomputable def R_66_101 (h : Hp) : Option (Int32 × Hp) := bndI (S_67 h) (R_66_105)
theorem r_66_101 {X : GX} {d : Nat} {r : Int32 × Hp} (hd : 64 ≤ d) (hq : RtX X (some (.int r.1)) r.2) {h : Hp} (e : R_66_101 h = some r) : G X d 66 101 [some (.ref 21), none, none] [] h := by
  unfold R_66_101 at e
  obtain ⟨x, h2, e1, e2⟩ := bndI_s e
  refine k_66_101 (by omega) (t_67 e1) ?_
  rintro _ _ ⟨rfl, rfl⟩
  exact r_66_105 hd hq e2
noncomputable def R_66_92 (v1 : Int32) (v2 : Int32) (h : Hp) : Option (Int32 × Hp) := if (h 21 8) = 25 then R_66_106 v1 v2 h else R_66_101 h
theorem r_66_92 {X : GX} {d : Nat} {r : Int32 × Hp} (hd : 64 ≤ d) (hq : RtX X (some (.int r.1)) r.2) {h : Hp} {v1 : Int32} {v2 : Int32} (e : R_66_92 v1 v2 h = some r) : G X d 66 92 [some (.ref 21), some (.int v1), some (.int v2)] [] h := by
  unfold R_66_92 at e
  refine k_66_92 (fun c => ?_) (fun c => ?_)
  · rw [if_pos c] at e; exact r_66_106 hd hq e
  · rw [if_neg c] at e; exact r_66_101 hd hq e
noncomputable def R_66_80 (v1 : Int32) (h : Hp) : Option (Int32 × Hp) := bndV (S_68 h) (R_66_92 v1 ((h 21 8) - 6))
theorem r_66_80 {X : GX} {d : Nat} {r : Int32 × Hp} (hd : 64 ≤ d) (hq : RtX X (some (.int r.1)) r.2) {h : Hp} {v1 : Int32} (e : R_66_80 v1 h = some r) : G X d 66 80 [some (.ref 21), some (.int v1), none] [] h := by
  unfold R_66_80 at e
  obtain ⟨x, h2, e1, e2⟩ := bndV_s e
  refine k_66_80 (by omega) (t_68 e1) ?_
  rintro _ rfl
  exact r_66_92 hd hq e2
noncomputable def R_66_66 (v1 : Int32) (h : Hp) : Option (Int32 × Hp) := if (h 21 8) ≤ 8 then R_66_80 v1 h else R_66_75 h
theorem r_66_66 {X : GX} {d : Nat} {r : Int32 × Hp} (hd : 64 ≤ d) (hq : RtX X (some (.int r.1)) r.2) {h : Hp} {v1 : Int32} (e : R_66_66 v1 h = some r) : G X d 66 66 [some (.ref 21), some (.int v1), none] [] h := by
  unfold R_66_66 at e
  refine k_66_66 (fun c => ?_) (fun c => ?_)
  · rw [if_pos c] at e; exact r_66_80 hd hq e
  · rw [if_neg c] at e; exact r_66_75 hd hq e
noncomputable def R_66_57 (v1 : Int32) (h : Hp) : Option (Int32 × Hp) := if (h 21 8) < 6 then R_66_75 h else R_66_66 v1 h
theorem r_66_57 {X : GX} {d : Nat} {r : Int32 × Hp} (hd : 64 ≤ d) (hq : RtX X (some (.int r.1)) r.2) {h : Hp} {v1 : Int32} (e : R_66_57 v1 h = some r) : G X d 66 57 [some (.ref 21), some (.int v1), none] [] h := by
  unfold R_66_57 at e
  refine k_66_57 (fun c => ?_) (fun c => ?_)
  · rw [if_pos c] at e; exact r_66_75 hd hq e
  · rw [if_neg c] at e; exact r_66_66 hd hq e
noncomputable def R_66_55 (h : Hp) : Option (Int32 × Hp) := some (0, h)
theorem r_66_55 {X : GX} {d : Nat} {r : Int32 × Hp} (hd : 64 ≤ d) (hq : RtX X (some (.int r.1)) r.2) {h : Hp} (e : R_66_55 h = some r) : G X d 66 55 [none, none, none] [] h := by
  unfold R_66_55 at e
  rw [← Option.some.inj e] at hq
  exact k_66_55 hq
noncomputable def R_66_52 (v1 : Int32) (s0 : Int32) (h : Hp) : Option (Int32 × Hp) := if s0 = 0 then R_66_55 h else R_66_57 v1 h
theorem r_66_52 {X : GX} {d : Nat} {r : Int32 × Hp} (hd : 64 ≤ d) (hq : RtX X (some (.int r.1)) r.2) {h : Hp} {v1 : Int32} {s0 : Int32} (e : R_66_52 v1 s0 h = some r) : G X d 66 52 [some (.ref 21), some (.int v1), none] [.int s0] h := by
  unfold R_66_52 at e
  refine k_66_52 (fun c => ?_) (fun c => ?_)
  · rw [if_neg c] at e; exact r_66_57 hd hq e
  · rw [if_pos c] at e; exact r_66_55 hd hq e
noncomputable def R_66_47 (v1 : Int32) (h : Hp) : Option (Int32 × Hp) := bndI (S_69 0 h) (R_66_52 v1)
theorem r_66_47 {X : GX} {d : Nat} {r : Int32 × Hp} (hd : 64 ≤ d) (hq : RtX X (some (.int r.1)) r.2) {h : Hp} {v1 : Int32} (e : R_66_47 v1 h = some r) : G X d 66 47 [some (.ref 21), some (.int v1), none] [] h := by
  unfold R_66_47 at e
  obtain ⟨x, h2, e1, e2⟩ := bndI_s e
  refine k_66_47 (by omega) (t_69 e1) ?_
  rintro _ _ ⟨rfl, rfl⟩
  exact r_66_52 hd hq e2
noncomputable def R_66_43 (v1 : Int32) (h : Hp) : Option (Int32 × Hp) := bndV (S_68 h) (R_66_47 v1)
theorem r_66_43 {X : GX} {d : Nat} {r : Int32 × Hp} (hd : 64 ≤ d) (hq : RtX X (some (.int r.1)) r.2) {h : Hp} {v1 : Int32} (e : R_66_43 v1 h = some r) : G X d 66 43 [some (.ref 21), some (.int v1), none] [] h := by
  unfold R_66_43 at e
  obtain ⟨x, h2, e1, e2⟩ := bndV_s e
  refine k_66_43 (by omega) (t_68 e1) ?_
  rintro _ rfl
  exact r_66_47 hd hq e2
noncomputable def R_66_34 (v1 : Int32) (h : Hp) : Option (Int32 × Hp) := if (h 21 8) = 9 then R_66_43 v1 h else R_66_57 v1 h
theorem r_66_34 {X : GX} {d : Nat} {r : Int32 × Hp} (hd : 64 ≤ d) (hq : RtX X (some (.int r.1)) r.2) {h : Hp} {v1 : Int32} (e : R_66_34 v1 h = some r) : G X d 66 34 [some (.ref 21), some (.int v1), none] [] h := by
  unfold R_66_34 at e
  refine k_66_34 (fun c => ?_) (fun c => ?_)
  · rw [if_neg c] at e; exact r_66_57 hd hq e
  · rw [if_pos c] at e; exact r_66_43 hd hq e
noncomputable def R_66_25 (h : Hp) : Option (Int32 × Hp) := bndV (S_68 h) (R_66_34 (h 21 8))
theorem r_66_25 {X : GX} {d : Nat} {r : Int32 × Hp} (hd : 64 ≤ d) (hq : RtX X (some (.int r.1)) r.2) {h : Hp} (e : R_66_25 h = some r) : G X d 66 25 [some (.ref 21), none, none] [] h := by
  unfold R_66_25 at e
  obtain ⟨x, h2, e1, e2⟩ := bndV_s e
  refine k_66_25 (by omega) (t_68 e1) ?_
  rintro _ rfl
  exact r_66_34 hd hq e2
noncomputable def R_66_12 (h : Hp) : Option (Int32 × Hp) := if (h 21 8) ≤ 5 then R_66_25 h else R_66_20 h
theorem r_66_12 {X : GX} {d : Nat} {r : Int32 × Hp} (hd : 64 ≤ d) (hq : RtX X (some (.int r.1)) r.2) {h : Hp} (e : R_66_12 h = some r) : G X d 66 12 [some (.ref 21), none, none] [] h := by
  unfold R_66_12 at e
  refine k_66_12 (fun c => ?_) (fun c => ?_)
  · rw [if_pos c] at e; exact r_66_25 hd hq e
  · rw [if_neg c] at e; exact r_66_20 hd hq e
noncomputable def R_66_0 (h : Hp) : Option (Int32 × Hp) := if 8 ≤ (h 23 5) then R_66_20 h else R_66_12 h
theorem r_66_0 {X : GX} {d : Nat} {r : Int32 × Hp} (hd : 64 ≤ d) (hq : RtX X (some (.int r.1)) r.2) {h : Hp} (e : R_66_0 h = some r) : G X d 66 0 [some (.ref 21), none, none] [] h := by
  unfold R_66_0 at e
  refine k_66_0 (fun c => ?_) (fun c => ?_)
  · rw [if_pos c] at e; exact r_66_20 hd hq e
  · rw [if_neg c] at e; exact r_66_12 hd hq e
noncomputable def S_66 (h : Hp) : Option (Int32 × Hp) := R_66_0 h
set_option maxRecDepth 100000 in
theorem t_66 {h : Hp} {r : Int32 × Hp} (e : S_66 h = some r) : CI 64 66 [.ref 21] h (fun x g => x = r.1 ∧ g = r.2) := by
  refine C.of mo_66 (Nat.le_of_ble_eq_true rfl) (fun X hq => ?_)
  exact r_66_0 (Nat.le_refl _) (hq _ _ ⟨_, rfl, rfl, rfl⟩) e
/-! 45 PlayedTruth$RuleReader.readAndUseUp()Z -/
noncomputable def R_45_60 (v1 : Int32) (h : Hp) : Option (Int32 × Hp) := gd (v1 = 0 ∨ v1 = 1) (some (v1, (wr h 21 1 0)))
theorem r_45_60 {X : GX} {d : Nat} {r : Int32 × Hp} (hd : 65 ≤ d) (hq : RtX X (some (.int r.1)) r.2) {h : Hp} {v1 : Int32} (e : R_45_60 v1 h = some r) : G X d 45 60 [some (.ref 21), some (.int v1), none] [] h := by
  unfold R_45_60 at e
  have g := gd_s e; clear e; obtain ⟨z0, e⟩ := g
  rw [← Option.some.inj e] at hq
  exact k_45_60 z0 hq
noncomputable def R_45_53 (rec_30 : Int32 → Int32 → Hp → Option (Int32 × Hp)) (v2 : Int32) (s0 : Int32) (h : Hp) : Option (Int32 × Hp) := rec_30 s0 (v2 + 1) h
theorem r_45_53 {X : GX} {d : Nat} {r : Int32 × Hp} (hd : 65 ≤ d) (hq : RtX X (some (.int r.1)) r.2) {rec_30 : Int32 → Int32 → Hp → Option (Int32 × Hp)} (hr_30 : ∀ {v1 : Int32} {v2 : Int32} {h : Hp}, rec_30 v1 v2 h = some r → G X d 45 30 [some (.ref 21), some (.int v1), some (.int v2)] [] h) {h : Hp} {v2 : Int32} {s0 : Int32} (e : R_45_53 rec_30 v2 s0 h = some r) : G X d 45 53 [some (.ref 21), none, some (.int v2)] [.int s0] h := by
  unfold R_45_53 at e
  exact k_45_53 (hr_30 e)
noncomputable def R_45_49 (rec_30 : Int32 → Int32 → Hp → Option (Int32 × Hp)) (v2 : Int32) (h : Hp) : Option (Int32 × Hp) := bndI (S_66 h) (R_45_53 rec_30 v2)
theorem r_45_49 {X : GX} {d : Nat} {r : Int32 × Hp} (hd : 65 ≤ d) (hq : RtX X (some (.int r.1)) r.2) {rec_30 : Int32 → Int32 → Hp → Option (Int32 × Hp)} (hr_30 : ∀ {v1 : Int32} {v2 : Int32} {h : Hp}, rec_30 v1 v2 h = some r → G X d 45 30 [some (.ref 21), some (.int v1), some (.int v2)] [] h) {h : Hp} {v2 : Int32} (e : R_45_49 rec_30 v2 h = some r) : G X d 45 49 [some (.ref 21), none, some (.int v2)] [] h := by
  unfold R_45_49 at e
  obtain ⟨x, h2, e1, e2⟩ := bndI_s e
  refine k_45_49 (by omega) (t_66 e1) ?_
  rintro _ _ ⟨rfl, rfl⟩
  exact r_45_53 hd hq hr_30 e2
noncomputable def R_45_40 (rec_30 : Int32 → Int32 → Hp → Option (Int32 × Hp)) (v1 : Int32) (v2 : Int32) (h : Hp) : Option (Int32 × Hp) := if (h 21 8) = 27 then R_45_60 v1 h else R_45_49 rec_30 v2 h
theorem r_45_40 {X : GX} {d : Nat} {r : Int32 × Hp} (hd : 65 ≤ d) (hq : RtX X (some (.int r.1)) r.2) {rec_30 : Int32 → Int32 → Hp → Option (Int32 × Hp)} (hr_30 : ∀ {v1 : Int32} {v2 : Int32} {h : Hp}, rec_30 v1 v2 h = some r → G X d 45 30 [some (.ref 21), some (.int v1), some (.int v2)] [] h) {h : Hp} {v1 : Int32} {v2 : Int32} (e : R_45_40 rec_30 v1 v2 h = some r) : G X d 45 40 [some (.ref 21), some (.int v1), some (.int v2)] [] h := by
  unfold R_45_40 at e
  refine k_45_40 (fun c => ?_) (fun c => ?_)
  · rw [if_pos c] at e; exact r_45_60 hd hq e
  · rw [if_neg c] at e; exact r_45_49 hd hq hr_30 e
noncomputable def R_45_36 (rec_30 : Int32 → Int32 → Hp → Option (Int32 × Hp)) (v1 : Int32) (v2 : Int32) (h : Hp) : Option (Int32 × Hp) := if v1 = 0 then R_45_60 v1 h else R_45_40 rec_30 v1 v2 h
theorem r_45_36 {X : GX} {d : Nat} {r : Int32 × Hp} (hd : 65 ≤ d) (hq : RtX X (some (.int r.1)) r.2) {rec_30 : Int32 → Int32 → Hp → Option (Int32 × Hp)} (hr_30 : ∀ {v1 : Int32} {v2 : Int32} {h : Hp}, rec_30 v1 v2 h = some r → G X d 45 30 [some (.ref 21), some (.int v1), some (.int v2)] [] h) {h : Hp} {v1 : Int32} {v2 : Int32} (e : R_45_36 rec_30 v1 v2 h = some r) : G X d 45 36 [some (.ref 21), some (.int v1), some (.int v2)] [] h := by
  unfold R_45_36 at e
  refine k_45_36 (fun c => ?_) (fun c => ?_)
  · rw [if_pos c] at e; exact r_45_60 hd hq e
  · rw [if_neg c] at e; exact r_45_40 hd hq hr_30 e
noncomputable def R_45_30 (rec_30 : Int32 → Int32 → Hp → Option (Int32 × Hp)) (v1 : Int32) (v2 : Int32) (h : Hp) : Option (Int32 × Hp) := if 8 < v2 then R_45_60 v1 h else R_45_36 rec_30 v1 v2 h
theorem r_45_30 {X : GX} {d : Nat} {r : Int32 × Hp} (hd : 65 ≤ d) (hq : RtX X (some (.int r.1)) r.2) {rec_30 : Int32 → Int32 → Hp → Option (Int32 × Hp)} (hr_30 : ∀ {v1 : Int32} {v2 : Int32} {h : Hp}, rec_30 v1 v2 h = some r → G X d 45 30 [some (.ref 21), some (.int v1), some (.int v2)] [] h) {h : Hp} {v1 : Int32} {v2 : Int32} (e : R_45_30 rec_30 v1 v2 h = some r) : G X d 45 30 [some (.ref 21), some (.int v1), some (.int v2)] [] h := by
  unfold R_45_30 at e
  refine k_45_30 (fun c => ?_) (fun c => ?_)
  · rw [if_pos c] at e; exact r_45_60 hd hq e
  · rw [if_neg c] at e; exact r_45_36 hd hq hr_30 e
noncomputable def H_45_30 : Nat → Int32 → Int32 → Hp → Option (Int32 × Hp)
  | 0, _, _, _ => none
  | n + 1, v1, v2, h => R_45_30 (H_45_30 n) v1 v2 h
theorem h_45_30 {X : GX} {d : Nat} {r : Int32 × Hp} (hd : 65 ≤ d) (hq : RtX X (some (.int r.1)) r.2) {n : Nat} {h : Hp} {v1 : Int32} {v2 : Int32} (e : H_45_30 n v1 v2 h = some r) : G X d 45 30 [some (.ref 21), some (.int v1), some (.int v2)] [] h := by
  induction n generalizing v1 v2 h with
  | zero => cases e
  | succ n ih => exact r_45_30 hd hq (fun e => ih e) e
noncomputable def R_45_11 (h : Hp) : Option (Int32 × Hp) := gd (IA 28 0) (H_45_30 fuL 1 0 ((wr (wr h 21 7 0) 21 8 ((wr h 21 7 0) 28 (Int32.toNatClampNeg 0)))))
theorem r_45_11 {X : GX} {d : Nat} {r : Int32 × Hp} (hd : 65 ≤ d) (hq : RtX X (some (.int r.1)) r.2) {h : Hp} (e : R_45_11 h = some r) : G X d 45 11 [some (.ref 21), none, none] [] h := by
  unfold R_45_11 at e
  have g := gd_s e; clear e; obtain ⟨b0, e⟩ := g
  exact k_45_11 b0 (h_45_30 hd hq e)
noncomputable def R_45_4 (h : Hp) : Option (Int32 × Hp) := bndV (S_65 h) (R_45_11)
theorem r_45_4 {X : GX} {d : Nat} {r : Int32 × Hp} (hd : 65 ≤ d) (hq : RtX X (some (.int r.1)) r.2) {h : Hp} (e : R_45_4 h = some r) : G X d 45 4 [some (.ref 21), none, none] [] h := by
  unfold R_45_4 at e
  obtain ⟨x, h2, e1, e2⟩ := bndV_s e
  refine k_45_4 (by omega) (t_65 e1) ?_
  rintro _ rfl
  exact r_45_11 hd hq e2
noncomputable def R_45_0 (h : Hp) : Option (Int32 × Hp) := bndV (S_46 h) (R_45_4)
theorem r_45_0 {X : GX} {d : Nat} {r : Int32 × Hp} (hd : 65 ≤ d) (hq : RtX X (some (.int r.1)) r.2) {h : Hp} (e : R_45_0 h = some r) : G X d 45 0 [some (.ref 21), none, none] [] h := by
  unfold R_45_0 at e
  obtain ⟨x, h2, e1, e2⟩ := bndV_s e
  refine k_45_0 (by omega) (t_46 e1) ?_
  rintro _ rfl
  exact r_45_4 hd hq e2
noncomputable def S_45 (h : Hp) : Option (Int32 × Hp) := R_45_0 h
set_option maxRecDepth 100000 in
theorem t_45 {h : Hp} {r : Int32 × Hp} (e : S_45 h = some r) : CI 65 45 [.ref 21] h (fun x g => x = r.1 ∧ g = r.2) := by
  refine C.of mo_45 (Nat.le_of_ble_eq_true rfl) (fun X hq => ?_)
  exact r_45_0 (Nat.le_refl _) (hq _ _ ⟨_, rfl, rfl, rfl⟩) e
/-! 78 PlayedTruth$Rules.copyFrom(LPlayedTruth$Rules;)V -/
noncomputable def R_78_0 (v0 : Nat) (v1 : Nat) (h : Hp) : Option (Int32 × Hp) := gd (sh v1 = (1, 5) ∧ sh v0 = (1, 5) ∧ sh (v1 + 1) = (0, 8) ∧ sh (v0 + 1) = (0, 8) ∧ sh (v1 + 2) = (0, 8) ∧ sh (v0 + 2) = (0, 8) ∧ sh (v1 + 3) = (0, 8) ∧ sh (v0 + 3) = (0, 8) ∧ sh (v1 + 4) = (0, 200) ∧ sh (v0 + 4) = (0, 200)) (some (0, (wr (wr (wrA (wrA (wrA (wrA h (v0 + 1) (va_cpy (h (v1 + 1)) (h (v0 + 1)) (Int32.toNatClampNeg 0) (Int32.toNatClampNeg 0) (Int32.toNatClampNeg 8))) (v0 + 2) (va_cpy ((wrA h (v0 + 1) (va_cpy (h (v1 + 1)) (h (v0 + 1)) (Int32.toNatClampNeg 0) (Int32.toNatClampNeg 0) (Int32.toNatClampNeg 8))) (v1 + 2)) ((wrA h (v0 + 1) (va_cpy (h (v1 + 1)) (h (v0 + 1)) (Int32.toNatClampNeg 0) (Int32.toNatClampNeg 0) (Int32.toNatClampNeg 8))) (v0 + 2)) (Int32.toNatClampNeg 0) (Int32.toNatClampNeg 0) (Int32.toNatClampNeg 8))) (v0 + 3) (va_cpy ((wrA (wrA h (v0 + 1) (va_cpy (h (v1 + 1)) (h (v0 + 1)) (Int32.toNatClampNeg 0) (Int32.toNatClampNeg 0) (Int32.toNatClampNeg 8))) (v0 + 2) (va_cpy ((wrA h (v0 + 1) (va_cpy (h (v1 + 1)) (h (v0 + 1)) (Int32.toNatClampNeg 0) (Int32.toNatClampNeg 0) (Int32.toNatClampNeg 8))) (v1 + 2)) ((wrA h (v0 + 1) (va_cpy (h (v1 + 1)) (h (v0 + 1)) (Int32.toNatClampNeg 0) (Int32.toNatClampNeg 0) (Int32.toNatClampNeg 8))) (v0 + 2)) (Int32.toNatClampNeg 0) (Int32.toNatClampNeg 0) (Int32.toNatClampNeg 8))) (v1 + 3)) ((wrA (wrA h (v0 + 1) (va_cpy (h (v1 + 1)) (h (v0 + 1)) (Int32.toNatClampNeg 0) (Int32.toNatClampNeg 0) (Int32.toNatClampNeg 8))) (v0 + 2) (va_cpy ((wrA h (v0 + 1) (va_cpy (h (v1 + 1)) (h (v0 + 1)) (Int32.toNatClampNeg 0) (Int32.toNatClampNeg 0) (Int32.toNatClampNeg 8))) (v1 + 2)) ((wrA h (v0 + 1) (va_cpy (h (v1 + 1)) (h (v0 + 1)) (Int32.toNatClampNeg 0) (Int32.toNatClampNeg 0) (Int32.toNatClampNeg 8))) (v0 + 2)) (Int32.toNatClampNeg 0) (Int32.toNatClampNeg 0) (Int32.toNatClampNeg 8))) (v0 + 3)) (Int32.toNatClampNeg 0) (Int32.toNatClampNeg 0) (Int32.toNatClampNeg 8))) (v0 + 4) (va_cpy ((wrA (wrA (wrA h (v0 + 1) (va_cpy (h (v1 + 1)) (h (v0 + 1)) (Int32.toNatClampNeg 0) (Int32.toNatClampNeg 0) (Int32.toNatClampNeg 8))) (v0 + 2) (va_cpy ((wrA h (v0 + 1) (va_cpy (h (v1 + 1)) (h (v0 + 1)) (Int32.toNatClampNeg 0) (Int32.toNatClampNeg 0) (Int32.toNatClampNeg 8))) (v1 + 2)) ((wrA h (v0 + 1) (va_cpy (h (v1 + 1)) (h (v0 + 1)) (Int32.toNatClampNeg 0) (Int32.toNatClampNeg 0) (Int32.toNatClampNeg 8))) (v0 + 2)) (Int32.toNatClampNeg 0) (Int32.toNatClampNeg 0) (Int32.toNatClampNeg 8))) (v0 + 3) (va_cpy ((wrA (wrA h (v0 + 1) (va_cpy (h (v1 + 1)) (h (v0 + 1)) (Int32.toNatClampNeg 0) (Int32.toNatClampNeg 0) (Int32.toNatClampNeg 8))) (v0 + 2) (va_cpy ((wrA h (v0 + 1) (va_cpy (h (v1 + 1)) (h (v0 + 1)) (Int32.toNatClampNeg 0) (Int32.toNatClampNeg 0) (Int32.toNatClampNeg 8))) (v1 + 2)) ((wrA h (v0 + 1) (va_cpy (h (v1 + 1)) (h (v0 + 1)) (Int32.toNatClampNeg 0) (Int32.toNatClampNeg 0) (Int32.toNatClampNeg 8))) (v0 + 2)) (Int32.toNatClampNeg 0) (Int32.toNatClampNeg 0) (Int32.toNatClampNeg 8))) (v1 + 3)) ((wrA (wrA h (v0 + 1) (va_cpy (h (v1 + 1)) (h (v0 + 1)) (Int32.toNatClampNeg 0) (Int32.toNatClampNeg 0) (Int32.toNatClampNeg 8))) (v0 + 2) (va_cpy ((wrA h (v0 + 1) (va_cpy (h (v1 + 1)) (h (v0 + 1)) (Int32.toNatClampNeg 0) (Int32.toNatClampNeg 0) (Int32.toNatClampNeg 8))) (v1 + 2)) ((wrA h (v0 + 1) (va_cpy (h (v1 + 1)) (h (v0 + 1)) (Int32.toNatClampNeg 0) (Int32.toNatClampNeg 0) (Int32.toNatClampNeg 8))) (v0 + 2)) (Int32.toNatClampNeg 0) (Int32.toNatClampNeg 0) (Int32.toNatClampNeg 8))) (v0 + 3)) (Int32.toNatClampNeg 0) (Int32.toNatClampNeg 0) (Int32.toNatClampNeg 8))) (v1 + 4)) ((wrA (wrA (wrA h (v0 + 1) (va_cpy (h (v1 + 1)) (h (v0 + 1)) (Int32.toNatClampNeg 0) (Int32.toNatClampNeg 0) (Int32.toNatClampNeg 8))) (v0 + 2) (va_cpy ((wrA h (v0 + 1) (va_cpy (h (v1 + 1)) (h (v0 + 1)) (Int32.toNatClampNeg 0) (Int32.toNatClampNeg 0) (Int32.toNatClampNeg 8))) (v1 + 2)) ((wrA h (v0 + 1) (va_cpy (h (v1 + 1)) (h (v0 + 1)) (Int32.toNatClampNeg 0) (Int32.toNatClampNeg 0) (Int32.toNatClampNeg 8))) (v0 + 2)) (Int32.toNatClampNeg 0) (Int32.toNatClampNeg 0) (Int32.toNatClampNeg 8))) (v0 + 3) (va_cpy ((wrA (wrA h (v0 + 1) (va_cpy (h (v1 + 1)) (h (v0 + 1)) (Int32.toNatClampNeg 0) (Int32.toNatClampNeg 0) (Int32.toNatClampNeg 8))) (v0 + 2) (va_cpy ((wrA h (v0 + 1) (va_cpy (h (v1 + 1)) (h (v0 + 1)) (Int32.toNatClampNeg 0) (Int32.toNatClampNeg 0) (Int32.toNatClampNeg 8))) (v1 + 2)) ((wrA h (v0 + 1) (va_cpy (h (v1 + 1)) (h (v0 + 1)) (Int32.toNatClampNeg 0) (Int32.toNatClampNeg 0) (Int32.toNatClampNeg 8))) (v0 + 2)) (Int32.toNatClampNeg 0) (Int32.toNatClampNeg 0) (Int32.toNatClampNeg 8))) (v1 + 3)) ((wrA (wrA h (v0 + 1) (va_cpy (h (v1 + 1)) (h (v0 + 1)) (Int32.toNatClampNeg 0) (Int32.toNatClampNeg 0) (Int32.toNatClampNeg 8))) (v0 + 2) (va_cpy ((wrA h (v0 + 1) (va_cpy (h (v1 + 1)) (h (v0 + 1)) (Int32.toNatClampNeg 0) (Int32.toNatClampNeg 0) (Int32.toNatClampNeg 8))) (v1 + 2)) ((wrA h (v0 + 1) (va_cpy (h (v1 + 1)) (h (v0 + 1)) (Int32.toNatClampNeg 0) (Int32.toNatClampNeg 0) (Int32.toNatClampNeg 8))) (v0 + 2)) (Int32.toNatClampNeg 0) (Int32.toNatClampNeg 0) (Int32.toNatClampNeg 8))) (v0 + 3)) (Int32.toNatClampNeg 0) (Int32.toNatClampNeg 0) (Int32.toNatClampNeg 8))) (v0 + 4)) (Int32.toNatClampNeg 0) (Int32.toNatClampNeg 0) (Int32.toNatClampNeg 200))) v0 4 ((wrA (wrA (wrA (wrA h (v0 + 1) (va_cpy (h (v1 + 1)) (h (v0 + 1)) (Int32.toNatClampNeg 0) (Int32.toNatClampNeg 0) (Int32.toNatClampNeg 8))) (v0 + 2) (va_cpy ((wrA h (v0 + 1) (va_cpy (h (v1 + 1)) (h (v0 + 1)) (Int32.toNatClampNeg 0) (Int32.toNatClampNeg 0) (Int32.toNatClampNeg 8))) (v1 + 2)) ((wrA h (v0 + 1) (va_cpy (h (v1 + 1)) (h (v0 + 1)) (Int32.toNatClampNeg 0) (Int32.toNatClampNeg 0) (Int32.toNatClampNeg 8))) (v0 + 2)) (Int32.toNatClampNeg 0) (Int32.toNatClampNeg 0) (Int32.toNatClampNeg 8))) (v0 + 3) (va_cpy ((wrA (wrA h (v0 + 1) (va_cpy (h (v1 + 1)) (h (v0 + 1)) (Int32.toNatClampNeg 0) (Int32.toNatClampNeg 0) (Int32.toNatClampNeg 8))) (v0 + 2) (va_cpy ((wrA h (v0 + 1) (va_cpy (h (v1 + 1)) (h (v0 + 1)) (Int32.toNatClampNeg 0) (Int32.toNatClampNeg 0) (Int32.toNatClampNeg 8))) (v1 + 2)) ((wrA h (v0 + 1) (va_cpy (h (v1 + 1)) (h (v0 + 1)) (Int32.toNatClampNeg 0) (Int32.toNatClampNeg 0) (Int32.toNatClampNeg 8))) (v0 + 2)) (Int32.toNatClampNeg 0) (Int32.toNatClampNeg 0) (Int32.toNatClampNeg 8))) (v1 + 3)) ((wrA (wrA h (v0 + 1) (va_cpy (h (v1 + 1)) (h (v0 + 1)) (Int32.toNatClampNeg 0) (Int32.toNatClampNeg 0) (Int32.toNatClampNeg 8))) (v0 + 2) (va_cpy ((wrA h (v0 + 1) (va_cpy (h (v1 + 1)) (h (v0 + 1)) (Int32.toNatClampNeg 0) (Int32.toNatClampNeg 0) (Int32.toNatClampNeg 8))) (v1 + 2)) ((wrA h (v0 + 1) (va_cpy (h (v1 + 1)) (h (v0 + 1)) (Int32.toNatClampNeg 0) (Int32.toNatClampNeg 0) (Int32.toNatClampNeg 8))) (v0 + 2)) (Int32.toNatClampNeg 0) (Int32.toNatClampNeg 0) (Int32.toNatClampNeg 8))) (v0 + 3)) (Int32.toNatClampNeg 0) (Int32.toNatClampNeg 0) (Int32.toNatClampNeg 8))) (v0 + 4) (va_cpy ((wrA (wrA (wrA h (v0 + 1) (va_cpy (h (v1 + 1)) (h (v0 + 1)) (Int32.toNatClampNeg 0) (Int32.toNatClampNeg 0) (Int32.toNatClampNeg 8))) (v0 + 2) (va_cpy ((wrA h (v0 + 1) (va_cpy (h (v1 + 1)) (h (v0 + 1)) (Int32.toNatClampNeg 0) (Int32.toNatClampNeg 0) (Int32.toNatClampNeg 8))) (v1 + 2)) ((wrA h (v0 + 1) (va_cpy (h (v1 + 1)) (h (v0 + 1)) (Int32.toNatClampNeg 0) (Int32.toNatClampNeg 0) (Int32.toNatClampNeg 8))) (v0 + 2)) (Int32.toNatClampNeg 0) (Int32.toNatClampNeg 0) (Int32.toNatClampNeg 8))) (v0 + 3) (va_cpy ((wrA (wrA h (v0 + 1) (va_cpy (h (v1 + 1)) (h (v0 + 1)) (Int32.toNatClampNeg 0) (Int32.toNatClampNeg 0) (Int32.toNatClampNeg 8))) (v0 + 2) (va_cpy ((wrA h (v0 + 1) (va_cpy (h (v1 + 1)) (h (v0 + 1)) (Int32.toNatClampNeg 0) (Int32.toNatClampNeg 0) (Int32.toNatClampNeg 8))) (v1 + 2)) ((wrA h (v0 + 1) (va_cpy (h (v1 + 1)) (h (v0 + 1)) (Int32.toNatClampNeg 0) (Int32.toNatClampNeg 0) (Int32.toNatClampNeg 8))) (v0 + 2)) (Int32.toNatClampNeg 0) (Int32.toNatClampNeg 0) (Int32.toNatClampNeg 8))) (v1 + 3)) ((wrA (wrA h (v0 + 1) (va_cpy (h (v1 + 1)) (h (v0 + 1)) (Int32.toNatClampNeg 0) (Int32.toNatClampNeg 0) (Int32.toNatClampNeg 8))) (v0 + 2) (va_cpy ((wrA h (v0 + 1) (va_cpy (h (v1 + 1)) (h (v0 + 1)) (Int32.toNatClampNeg 0) (Int32.toNatClampNeg 0) (Int32.toNatClampNeg 8))) (v1 + 2)) ((wrA h (v0 + 1) (va_cpy (h (v1 + 1)) (h (v0 + 1)) (Int32.toNatClampNeg 0) (Int32.toNatClampNeg 0) (Int32.toNatClampNeg 8))) (v0 + 2)) (Int32.toNatClampNeg 0) (Int32.toNatClampNeg 0) (Int32.toNatClampNeg 8))) (v0 + 3)) (Int32.toNatClampNeg 0) (Int32.toNatClampNeg 0) (Int32.toNatClampNeg 8))) (v1 + 4)) ((wrA (wrA (wrA h (v0 + 1) (va_cpy (h (v1 + 1)) (h (v0 + 1)) (Int32.toNatClampNeg 0) (Int32.toNatClampNeg 0) (Int32.toNatClampNeg 8))) (v0 + 2) (va_cpy ((wrA h (v0 + 1) (va_cpy (h (v1 + 1)) (h (v0 + 1)) (Int32.toNatClampNeg 0) (Int32.toNatClampNeg 0) (Int32.toNatClampNeg 8))) (v1 + 2)) ((wrA h (v0 + 1) (va_cpy (h (v1 + 1)) (h (v0 + 1)) (Int32.toNatClampNeg 0) (Int32.toNatClampNeg 0) (Int32.toNatClampNeg 8))) (v0 + 2)) (Int32.toNatClampNeg 0) (Int32.toNatClampNeg 0) (Int32.toNatClampNeg 8))) (v0 + 3) (va_cpy ((wrA (wrA h (v0 + 1) (va_cpy (h (v1 + 1)) (h (v0 + 1)) (Int32.toNatClampNeg 0) (Int32.toNatClampNeg 0) (Int32.toNatClampNeg 8))) (v0 + 2) (va_cpy ((wrA h (v0 + 1) (va_cpy (h (v1 + 1)) (h (v0 + 1)) (Int32.toNatClampNeg 0) (Int32.toNatClampNeg 0) (Int32.toNatClampNeg 8))) (v1 + 2)) ((wrA h (v0 + 1) (va_cpy (h (v1 + 1)) (h (v0 + 1)) (Int32.toNatClampNeg 0) (Int32.toNatClampNeg 0) (Int32.toNatClampNeg 8))) (v0 + 2)) (Int32.toNatClampNeg 0) (Int32.toNatClampNeg 0) (Int32.toNatClampNeg 8))) (v1 + 3)) ((wrA (wrA h (v0 + 1) (va_cpy (h (v1 + 1)) (h (v0 + 1)) (Int32.toNatClampNeg 0) (Int32.toNatClampNeg 0) (Int32.toNatClampNeg 8))) (v0 + 2) (va_cpy ((wrA h (v0 + 1) (va_cpy (h (v1 + 1)) (h (v0 + 1)) (Int32.toNatClampNeg 0) (Int32.toNatClampNeg 0) (Int32.toNatClampNeg 8))) (v1 + 2)) ((wrA h (v0 + 1) (va_cpy (h (v1 + 1)) (h (v0 + 1)) (Int32.toNatClampNeg 0) (Int32.toNatClampNeg 0) (Int32.toNatClampNeg 8))) (v0 + 2)) (Int32.toNatClampNeg 0) (Int32.toNatClampNeg 0) (Int32.toNatClampNeg 8))) (v0 + 3)) (Int32.toNatClampNeg 0) (Int32.toNatClampNeg 0) (Int32.toNatClampNeg 8))) (v0 + 4)) (Int32.toNatClampNeg 0) (Int32.toNatClampNeg 0) (Int32.toNatClampNeg 200))) v1 4)) v0 5 ((wr (wrA (wrA (wrA (wrA h (v0 + 1) (va_cpy (h (v1 + 1)) (h (v0 + 1)) (Int32.toNatClampNeg 0) (Int32.toNatClampNeg 0) (Int32.toNatClampNeg 8))) (v0 + 2) (va_cpy ((wrA h (v0 + 1) (va_cpy (h (v1 + 1)) (h (v0 + 1)) (Int32.toNatClampNeg 0) (Int32.toNatClampNeg 0) (Int32.toNatClampNeg 8))) (v1 + 2)) ((wrA h (v0 + 1) (va_cpy (h (v1 + 1)) (h (v0 + 1)) (Int32.toNatClampNeg 0) (Int32.toNatClampNeg 0) (Int32.toNatClampNeg 8))) (v0 + 2)) (Int32.toNatClampNeg 0) (Int32.toNatClampNeg 0) (Int32.toNatClampNeg 8))) (v0 + 3) (va_cpy ((wrA (wrA h (v0 + 1) (va_cpy (h (v1 + 1)) (h (v0 + 1)) (Int32.toNatClampNeg 0) (Int32.toNatClampNeg 0) (Int32.toNatClampNeg 8))) (v0 + 2) (va_cpy ((wrA h (v0 + 1) (va_cpy (h (v1 + 1)) (h (v0 + 1)) (Int32.toNatClampNeg 0) (Int32.toNatClampNeg 0) (Int32.toNatClampNeg 8))) (v1 + 2)) ((wrA h (v0 + 1) (va_cpy (h (v1 + 1)) (h (v0 + 1)) (Int32.toNatClampNeg 0) (Int32.toNatClampNeg 0) (Int32.toNatClampNeg 8))) (v0 + 2)) (Int32.toNatClampNeg 0) (Int32.toNatClampNeg 0) (Int32.toNatClampNeg 8))) (v1 + 3)) ((wrA (wrA h (v0 + 1) (va_cpy (h (v1 + 1)) (h (v0 + 1)) (Int32.toNatClampNeg 0) (Int32.toNatClampNeg 0) (Int32.toNatClampNeg 8))) (v0 + 2) (va_cpy ((wrA h (v0 + 1) (va_cpy (h (v1 + 1)) (h (v0 + 1)) (Int32.toNatClampNeg 0) (Int32.toNatClampNeg 0) (Int32.toNatClampNeg 8))) (v1 + 2)) ((wrA h (v0 + 1) (va_cpy (h (v1 + 1)) (h (v0 + 1)) (Int32.toNatClampNeg 0) (Int32.toNatClampNeg 0) (Int32.toNatClampNeg 8))) (v0 + 2)) (Int32.toNatClampNeg 0) (Int32.toNatClampNeg 0) (Int32.toNatClampNeg 8))) (v0 + 3)) (Int32.toNatClampNeg 0) (Int32.toNatClampNeg 0) (Int32.toNatClampNeg 8))) (v0 + 4) (va_cpy ((wrA (wrA (wrA h (v0 + 1) (va_cpy (h (v1 + 1)) (h (v0 + 1)) (Int32.toNatClampNeg 0) (Int32.toNatClampNeg 0) (Int32.toNatClampNeg 8))) (v0 + 2) (va_cpy ((wrA h (v0 + 1) (va_cpy (h (v1 + 1)) (h (v0 + 1)) (Int32.toNatClampNeg 0) (Int32.toNatClampNeg 0) (Int32.toNatClampNeg 8))) (v1 + 2)) ((wrA h (v0 + 1) (va_cpy (h (v1 + 1)) (h (v0 + 1)) (Int32.toNatClampNeg 0) (Int32.toNatClampNeg 0) (Int32.toNatClampNeg 8))) (v0 + 2)) (Int32.toNatClampNeg 0) (Int32.toNatClampNeg 0) (Int32.toNatClampNeg 8))) (v0 + 3) (va_cpy ((wrA (wrA h (v0 + 1) (va_cpy (h (v1 + 1)) (h (v0 + 1)) (Int32.toNatClampNeg 0) (Int32.toNatClampNeg 0) (Int32.toNatClampNeg 8))) (v0 + 2) (va_cpy ((wrA h (v0 + 1) (va_cpy (h (v1 + 1)) (h (v0 + 1)) (Int32.toNatClampNeg 0) (Int32.toNatClampNeg 0) (Int32.toNatClampNeg 8))) (v1 + 2)) ((wrA h (v0 + 1) (va_cpy (h (v1 + 1)) (h (v0 + 1)) (Int32.toNatClampNeg 0) (Int32.toNatClampNeg 0) (Int32.toNatClampNeg 8))) (v0 + 2)) (Int32.toNatClampNeg 0) (Int32.toNatClampNeg 0) (Int32.toNatClampNeg 8))) (v1 + 3)) ((wrA (wrA h (v0 + 1) (va_cpy (h (v1 + 1)) (h (v0 + 1)) (Int32.toNatClampNeg 0) (Int32.toNatClampNeg 0) (Int32.toNatClampNeg 8))) (v0 + 2) (va_cpy ((wrA h (v0 + 1) (va_cpy (h (v1 + 1)) (h (v0 + 1)) (Int32.toNatClampNeg 0) (Int32.toNatClampNeg 0) (Int32.toNatClampNeg 8))) (v1 + 2)) ((wrA h (v0 + 1) (va_cpy (h (v1 + 1)) (h (v0 + 1)) (Int32.toNatClampNeg 0) (Int32.toNatClampNeg 0) (Int32.toNatClampNeg 8))) (v0 + 2)) (Int32.toNatClampNeg 0) (Int32.toNatClampNeg 0) (Int32.toNatClampNeg 8))) (v0 + 3)) (Int32.toNatClampNeg 0) (Int32.toNatClampNeg 0) (Int32.toNatClampNeg 8))) (v1 + 4)) ((wrA (wrA (wrA h (v0 + 1) (va_cpy (h (v1 + 1)) (h (v0 + 1)) (Int32.toNatClampNeg 0) (Int32.toNatClampNeg 0) (Int32.toNatClampNeg 8))) (v0 + 2) (va_cpy ((wrA h (v0 + 1) (va_cpy (h (v1 + 1)) (h (v0 + 1)) (Int32.toNatClampNeg 0) (Int32.toNatClampNeg 0) (Int32.toNatClampNeg 8))) (v1 + 2)) ((wrA h (v0 + 1) (va_cpy (h (v1 + 1)) (h (v0 + 1)) (Int32.toNatClampNeg 0) (Int32.toNatClampNeg 0) (Int32.toNatClampNeg 8))) (v0 + 2)) (Int32.toNatClampNeg 0) (Int32.toNatClampNeg 0) (Int32.toNatClampNeg 8))) (v0 + 3) (va_cpy ((wrA (wrA h (v0 + 1) (va_cpy (h (v1 + 1)) (h (v0 + 1)) (Int32.toNatClampNeg 0) (Int32.toNatClampNeg 0) (Int32.toNatClampNeg 8))) (v0 + 2) (va_cpy ((wrA h (v0 + 1) (va_cpy (h (v1 + 1)) (h (v0 + 1)) (Int32.toNatClampNeg 0) (Int32.toNatClampNeg 0) (Int32.toNatClampNeg 8))) (v1 + 2)) ((wrA h (v0 + 1) (va_cpy (h (v1 + 1)) (h (v0 + 1)) (Int32.toNatClampNeg 0) (Int32.toNatClampNeg 0) (Int32.toNatClampNeg 8))) (v0 + 2)) (Int32.toNatClampNeg 0) (Int32.toNatClampNeg 0) (Int32.toNatClampNeg 8))) (v1 + 3)) ((wrA (wrA h (v0 + 1) (va_cpy (h (v1 + 1)) (h (v0 + 1)) (Int32.toNatClampNeg 0) (Int32.toNatClampNeg 0) (Int32.toNatClampNeg 8))) (v0 + 2) (va_cpy ((wrA h (v0 + 1) (va_cpy (h (v1 + 1)) (h (v0 + 1)) (Int32.toNatClampNeg 0) (Int32.toNatClampNeg 0) (Int32.toNatClampNeg 8))) (v1 + 2)) ((wrA h (v0 + 1) (va_cpy (h (v1 + 1)) (h (v0 + 1)) (Int32.toNatClampNeg 0) (Int32.toNatClampNeg 0) (Int32.toNatClampNeg 8))) (v0 + 2)) (Int32.toNatClampNeg 0) (Int32.toNatClampNeg 0) (Int32.toNatClampNeg 8))) (v0 + 3)) (Int32.toNatClampNeg 0) (Int32.toNatClampNeg 0) (Int32.toNatClampNeg 8))) (v0 + 4)) (Int32.toNatClampNeg 0) (Int32.toNatClampNeg 0) (Int32.toNatClampNeg 200))) v0 4 ((wrA (wrA (wrA (wrA h (v0 + 1) (va_cpy (h (v1 + 1)) (h (v0 + 1)) (Int32.toNatClampNeg 0) (Int32.toNatClampNeg 0) (Int32.toNatClampNeg 8))) (v0 + 2) (va_cpy ((wrA h (v0 + 1) (va_cpy (h (v1 + 1)) (h (v0 + 1)) (Int32.toNatClampNeg 0) (Int32.toNatClampNeg 0) (Int32.toNatClampNeg 8))) (v1 + 2)) ((wrA h (v0 + 1) (va_cpy (h (v1 + 1)) (h (v0 + 1)) (Int32.toNatClampNeg 0) (Int32.toNatClampNeg 0) (Int32.toNatClampNeg 8))) (v0 + 2)) (Int32.toNatClampNeg 0) (Int32.toNatClampNeg 0) (Int32.toNatClampNeg 8))) (v0 + 3) (va_cpy ((wrA (wrA h (v0 + 1) (va_cpy (h (v1 + 1)) (h (v0 + 1)) (Int32.toNatClampNeg 0) (Int32.toNatClampNeg 0) (Int32.toNatClampNeg 8))) (v0 + 2) (va_cpy ((wrA h (v0 + 1) (va_cpy (h (v1 + 1)) (h (v0 + 1)) (Int32.toNatClampNeg 0) (Int32.toNatClampNeg 0) (Int32.toNatClampNeg 8))) (v1 + 2)) ((wrA h (v0 + 1) (va_cpy (h (v1 + 1)) (h (v0 + 1)) (Int32.toNatClampNeg 0) (Int32.toNatClampNeg 0) (Int32.toNatClampNeg 8))) (v0 + 2)) (Int32.toNatClampNeg 0) (Int32.toNatClampNeg 0) (Int32.toNatClampNeg 8))) (v1 + 3)) ((wrA (wrA h (v0 + 1) (va_cpy (h (v1 + 1)) (h (v0 + 1)) (Int32.toNatClampNeg 0) (Int32.toNatClampNeg 0) (Int32.toNatClampNeg 8))) (v0 + 2) (va_cpy ((wrA h (v0 + 1) (va_cpy (h (v1 + 1)) (h (v0 + 1)) (Int32.toNatClampNeg 0) (Int32.toNatClampNeg 0) (Int32.toNatClampNeg 8))) (v1 + 2)) ((wrA h (v0 + 1) (va_cpy (h (v1 + 1)) (h (v0 + 1)) (Int32.toNatClampNeg 0) (Int32.toNatClampNeg 0) (Int32.toNatClampNeg 8))) (v0 + 2)) (Int32.toNatClampNeg 0) (Int32.toNatClampNeg 0) (Int32.toNatClampNeg 8))) (v0 + 3)) (Int32.toNatClampNeg 0) (Int32.toNatClampNeg 0) (Int32.toNatClampNeg 8))) (v0 + 4) (va_cpy ((wrA (wrA (wrA h (v0 + 1) (va_cpy (h (v1 + 1)) (h (v0 + 1)) (Int32.toNatClampNeg 0) (Int32.toNatClampNeg 0) (Int32.toNatClampNeg 8))) (v0 + 2) (va_cpy ((wrA h (v0 + 1) (va_cpy (h (v1 + 1)) (h (v0 + 1)) (Int32.toNatClampNeg 0) (Int32.toNatClampNeg 0) (Int32.toNatClampNeg 8))) (v1 + 2)) ((wrA h (v0 + 1) (va_cpy (h (v1 + 1)) (h (v0 + 1)) (Int32.toNatClampNeg 0) (Int32.toNatClampNeg 0) (Int32.toNatClampNeg 8))) (v0 + 2)) (Int32.toNatClampNeg 0) (Int32.toNatClampNeg 0) (Int32.toNatClampNeg 8))) (v0 + 3) (va_cpy ((wrA (wrA h (v0 + 1) (va_cpy (h (v1 + 1)) (h (v0 + 1)) (Int32.toNatClampNeg 0) (Int32.toNatClampNeg 0) (Int32.toNatClampNeg 8))) (v0 + 2) (va_cpy ((wrA h (v0 + 1) (va_cpy (h (v1 + 1)) (h (v0 + 1)) (Int32.toNatClampNeg 0) (Int32.toNatClampNeg 0) (Int32.toNatClampNeg 8))) (v1 + 2)) ((wrA h (v0 + 1) (va_cpy (h (v1 + 1)) (h (v0 + 1)) (Int32.toNatClampNeg 0) (Int32.toNatClampNeg 0) (Int32.toNatClampNeg 8))) (v0 + 2)) (Int32.toNatClampNeg 0) (Int32.toNatClampNeg 0) (Int32.toNatClampNeg 8))) (v1 + 3)) ((wrA (wrA h (v0 + 1) (va_cpy (h (v1 + 1)) (h (v0 + 1)) (Int32.toNatClampNeg 0) (Int32.toNatClampNeg 0) (Int32.toNatClampNeg 8))) (v0 + 2) (va_cpy ((wrA h (v0 + 1) (va_cpy (h (v1 + 1)) (h (v0 + 1)) (Int32.toNatClampNeg 0) (Int32.toNatClampNeg 0) (Int32.toNatClampNeg 8))) (v1 + 2)) ((wrA h (v0 + 1) (va_cpy (h (v1 + 1)) (h (v0 + 1)) (Int32.toNatClampNeg 0) (Int32.toNatClampNeg 0) (Int32.toNatClampNeg 8))) (v0 + 2)) (Int32.toNatClampNeg 0) (Int32.toNatClampNeg 0) (Int32.toNatClampNeg 8))) (v0 + 3)) (Int32.toNatClampNeg 0) (Int32.toNatClampNeg 0) (Int32.toNatClampNeg 8))) (v1 + 4)) ((wrA (wrA (wrA h (v0 + 1) (va_cpy (h (v1 + 1)) (h (v0 + 1)) (Int32.toNatClampNeg 0) (Int32.toNatClampNeg 0) (Int32.toNatClampNeg 8))) (v0 + 2) (va_cpy ((wrA h (v0 + 1) (va_cpy (h (v1 + 1)) (h (v0 + 1)) (Int32.toNatClampNeg 0) (Int32.toNatClampNeg 0) (Int32.toNatClampNeg 8))) (v1 + 2)) ((wrA h (v0 + 1) (va_cpy (h (v1 + 1)) (h (v0 + 1)) (Int32.toNatClampNeg 0) (Int32.toNatClampNeg 0) (Int32.toNatClampNeg 8))) (v0 + 2)) (Int32.toNatClampNeg 0) (Int32.toNatClampNeg 0) (Int32.toNatClampNeg 8))) (v0 + 3) (va_cpy ((wrA (wrA h (v0 + 1) (va_cpy (h (v1 + 1)) (h (v0 + 1)) (Int32.toNatClampNeg 0) (Int32.toNatClampNeg 0) (Int32.toNatClampNeg 8))) (v0 + 2) (va_cpy ((wrA h (v0 + 1) (va_cpy (h (v1 + 1)) (h (v0 + 1)) (Int32.toNatClampNeg 0) (Int32.toNatClampNeg 0) (Int32.toNatClampNeg 8))) (v1 + 2)) ((wrA h (v0 + 1) (va_cpy (h (v1 + 1)) (h (v0 + 1)) (Int32.toNatClampNeg 0) (Int32.toNatClampNeg 0) (Int32.toNatClampNeg 8))) (v0 + 2)) (Int32.toNatClampNeg 0) (Int32.toNatClampNeg 0) (Int32.toNatClampNeg 8))) (v1 + 3)) ((wrA (wrA h (v0 + 1) (va_cpy (h (v1 + 1)) (h (v0 + 1)) (Int32.toNatClampNeg 0) (Int32.toNatClampNeg 0) (Int32.toNatClampNeg 8))) (v0 + 2) (va_cpy ((wrA h (v0 + 1) (va_cpy (h (v1 + 1)) (h (v0 + 1)) (Int32.toNatClampNeg 0) (Int32.toNatClampNeg 0) (Int32.toNatClampNeg 8))) (v1 + 2)) ((wrA h (v0 + 1) (va_cpy (h (v1 + 1)) (h (v0 + 1)) (Int32.toNatClampNeg 0) (Int32.toNatClampNeg 0) (Int32.toNatClampNeg 8))) (v0 + 2)) (Int32.toNatClampNeg 0) (Int32.toNatClampNeg 0) (Int32.toNatClampNeg 8))) (v0 + 3)) (Int32.toNatClampNeg 0) (Int32.toNatClampNeg 0) (Int32.toNatClampNeg 8))) (v0 + 4)) (Int32.toNatClampNeg 0) (Int32.toNatClampNeg 0) (Int32.toNatClampNeg 200))) v1 4)) v1 5))))
set_option maxRecDepth 100000 in
theorem r_78_0 {X : GX} {d : Nat} {r : Int32 × Hp} (hd : 1 ≤ d) (hq : RtX X none r.2) {h : Hp} {v0 : Nat} {v1 : Nat} (e : R_78_0 v0 v1 h = some r) : G X d 78 0 [some (.ref v0), some (.ref v1)] [] h := by
  unfold R_78_0 at e
  have g := gd_s e; clear e; obtain ⟨⟨o0, o1, o3, o4, o5, o6, o7, o8, o9, o10⟩, e⟩ := g
  rw [← Option.some.inj e] at hq
  exact k_78_0 o0 o1 (by omega) o3 o4 o5 o6 o7 o8 o9 o10 hq
noncomputable def S_78 (v0 : Nat) (v1 : Nat) (h : Hp) : Option (Int32 × Hp) := R_78_0 v0 v1 h
set_option maxRecDepth 100000 in
theorem t_78 {v0 : Nat} {v1 : Nat} {h : Hp} {r : Int32 × Hp} (e : S_78 v0 v1 h = some r) : CV 1 78 [.ref v0, .ref v1] h (fun g => g = r.2) := by
  refine C.of mo_78 (Nat.le_of_ble_eq_true rfl) (fun X hq => ?_)
  exact r_78_0 (Nat.le_refl _) (hq _ _ ⟨rfl, rfl⟩) e
/-! 44 PlayedTruth.rules()I -/
noncomputable def R_44_40 (h : Hp) : Option (Int32 × Hp) := some ((h 7 5), h)
theorem r_44_40 {X : GX} {d : Nat} {r : Int32 × Hp} (hd : 66 ≤ d) (hq : RtX X (some (.int r.1)) r.2) {h : Hp} (e : R_44_40 h = some r) : G X d 44 40 [some (.ref 0), none] [] h := by
  unfold R_44_40 at e
  rw [← Option.some.inj e] at hq
  exact k_44_40 hq
noncomputable def R_44_23 (h : Hp) : Option (Int32 × Hp) := bndV (S_78 7 23 h) (R_44_40)
theorem r_44_23 {X : GX} {d : Nat} {r : Int32 × Hp} (hd : 66 ≤ d) (hq : RtX X (some (.int r.1)) r.2) {h : Hp} (e : R_44_23 h = some r) : G X d 44 23 [some (.ref 0), none] [] h := by
  unfold R_44_23 at e
  obtain ⟨x, h2, e1, e2⟩ := bndV_s e
  refine k_44_23 (by omega) (t_78 e1) ?_
  rintro _ rfl
  exact r_44_40 hd hq e2
noncomputable def R_44_12 (h : Hp) : Option (Int32 × Hp) := some ((((-100)) - (h 21 3)), h)
theorem r_44_12 {X : GX} {d : Nat} {r : Int32 × Hp} (hd : 66 ≤ d) (hq : RtX X (some (.int r.1)) r.2) {h : Hp} (e : R_44_12 h = some r) : G X d 44 12 [some (.ref 0), none] [] h := by
  unfold R_44_12 at e
  rw [← Option.some.inj e] at hq
  exact k_44_12 hq
noncomputable def R_44_7 (s0 : Int32) (h : Hp) : Option (Int32 × Hp) := if s0 = 0 then R_44_12 h else R_44_23 h
theorem r_44_7 {X : GX} {d : Nat} {r : Int32 × Hp} (hd : 66 ≤ d) (hq : RtX X (some (.int r.1)) r.2) {h : Hp} {s0 : Int32} (e : R_44_7 s0 h = some r) : G X d 44 7 [some (.ref 0), none] [.int s0] h := by
  unfold R_44_7 at e
  refine k_44_7 (fun c => ?_) (fun c => ?_)
  · rw [if_neg c] at e; exact r_44_23 hd hq e
  · rw [if_pos c] at e; exact r_44_12 hd hq e
noncomputable def R_44_0 (h : Hp) : Option (Int32 × Hp) := bndI (S_45 h) (R_44_7)
theorem r_44_0 {X : GX} {d : Nat} {r : Int32 × Hp} (hd : 66 ≤ d) (hq : RtX X (some (.int r.1)) r.2) {h : Hp} (e : R_44_0 h = some r) : G X d 44 0 [some (.ref 0), none] [] h := by
  unfold R_44_0 at e
  obtain ⟨x, h2, e1, e2⟩ := bndI_s e
  refine k_44_0 (by omega) (t_45 e1) ?_
  rintro _ _ ⟨rfl, rfl⟩
  exact r_44_7 hd hq e2
noncomputable def S_44 (h : Hp) : Option (Int32 × Hp) := R_44_0 h
set_option maxRecDepth 100000 in
theorem t_44 {h : Hp} {r : Int32 × Hp} (e : S_44 h = some r) : CI 66 44 [.ref 0] h (fun x g => x = r.1 ∧ g = r.2) := by
  refine C.of mo_44 (Nat.le_of_ble_eq_true rfl) (fun X hq => ?_)
  exact r_44_0 (Nat.le_refl _) (hq _ _ ⟨_, rfl, rfl, rfl⟩) e
/-! 80 PlayedTruth$Stage.actOfRest(LPlayedTruth$Moment;)I -/
noncomputable def R_80_29 (h : Hp) : Option (Int32 × Hp) := some (0, h)
theorem r_80_29 {X : GX} {d : Nat} {r : Int32 × Hp} (hd : 5 ≤ d) (hq : RtX X (some (.int r.1)) r.2) {h : Hp} (e : R_80_29 h = some r) : G X d 80 29 [none, none, none] [] h := by
  unfold R_80_29 at e
  rw [← Option.some.inj e] at hq
  exact k_80_29 hq
noncomputable def R_80_23 (rec_2 : Nat → Int32 → Hp → Option (Int32 × Hp)) (v1 : Nat) (v2 : Int32) (h : Hp) : Option (Int32 × Hp) := rec_2 v1 (v2 + 1) h
theorem r_80_23 {X : GX} {d : Nat} {r : Int32 × Hp} (hd : 5 ≤ d) (hq : RtX X (some (.int r.1)) r.2) {rec_2 : Nat → Int32 → Hp → Option (Int32 × Hp)} (hr_2 : ∀ {v1 : Nat} {v2 : Int32} {h : Hp}, rec_2 v1 v2 h = some r → G X d 80 2 [some (.ref 1), some (.ref v1), some (.int v2)] [] h) {h : Hp} {v1 : Nat} {v2 : Int32} (e : R_80_23 rec_2 v1 v2 h = some r) : G X d 80 23 [some (.ref 1), some (.ref v1), some (.int v2)] [] h := by
  unfold R_80_23 at e
  exact k_80_23 (hr_2 e)
noncomputable def R_80_19 (v2 : Int32) (h : Hp) : Option (Int32 × Hp) := some ((v2 + 1), h)
theorem r_80_19 {X : GX} {d : Nat} {r : Int32 × Hp} (hd : 5 ≤ d) (hq : RtX X (some (.int r.1)) r.2) {h : Hp} {v2 : Int32} (e : R_80_19 v2 h = some r) : G X d 80 19 [none, none, some (.int v2)] [] h := by
  unfold R_80_19 at e
  rw [← Option.some.inj e] at hq
  exact k_80_19 hq
noncomputable def R_80_16 (rec_2 : Nat → Int32 → Hp → Option (Int32 × Hp)) (v1 : Nat) (v2 : Int32) (s0 : Int32) (h : Hp) : Option (Int32 × Hp) := if s0 = 0 then R_80_23 rec_2 v1 v2 h else R_80_19 v2 h
theorem r_80_16 {X : GX} {d : Nat} {r : Int32 × Hp} (hd : 5 ≤ d) (hq : RtX X (some (.int r.1)) r.2) {rec_2 : Nat → Int32 → Hp → Option (Int32 × Hp)} (hr_2 : ∀ {v1 : Nat} {v2 : Int32} {h : Hp}, rec_2 v1 v2 h = some r → G X d 80 2 [some (.ref 1), some (.ref v1), some (.int v2)] [] h) {h : Hp} {v1 : Nat} {v2 : Int32} {s0 : Int32} (e : R_80_16 rec_2 v1 v2 s0 h = some r) : G X d 80 16 [some (.ref 1), some (.ref v1), some (.int v2)] [.int s0] h := by
  unfold R_80_16 at e
  refine k_80_16 (fun c => ?_) (fun c => ?_)
  · rw [if_pos c] at e; exact r_80_23 hd hq hr_2 e
  · rw [if_neg c] at e; exact r_80_19 hd hq e
noncomputable def R_80_10 (rec_2 : Nat → Int32 → Hp → Option (Int32 × Hp)) (v1 : Nat) (v2 : Int32) (h : Hp) : Option (Int32 × Hp) := bndI (S_23 v1 v2 h) (R_80_16 rec_2 v1 v2)
theorem r_80_10 {X : GX} {d : Nat} {r : Int32 × Hp} (hd : 5 ≤ d) (hq : RtX X (some (.int r.1)) r.2) {rec_2 : Nat → Int32 → Hp → Option (Int32 × Hp)} (hr_2 : ∀ {v1 : Nat} {v2 : Int32} {h : Hp}, rec_2 v1 v2 h = some r → G X d 80 2 [some (.ref 1), some (.ref v1), some (.int v2)] [] h) {h : Hp} {v1 : Nat} {v2 : Int32} (e : R_80_10 rec_2 v1 v2 h = some r) : G X d 80 10 [some (.ref 1), some (.ref v1), some (.int v2)] [] h := by
  unfold R_80_10 at e
  obtain ⟨x, h2, e1, e2⟩ := bndI_s e
  refine k_80_10 (by omega) (t_23 e1) ?_
  rintro _ _ ⟨rfl, rfl⟩
  exact r_80_16 hd hq hr_2 e2
noncomputable def R_80_2 (rec_2 : Nat → Int32 → Hp → Option (Int32 × Hp)) (v1 : Nat) (v2 : Int32) (h : Hp) : Option (Int32 × Hp) := if (h 1 7) ≤ v2 then R_80_29 h else R_80_10 rec_2 v1 v2 h
theorem r_80_2 {X : GX} {d : Nat} {r : Int32 × Hp} (hd : 5 ≤ d) (hq : RtX X (some (.int r.1)) r.2) {rec_2 : Nat → Int32 → Hp → Option (Int32 × Hp)} (hr_2 : ∀ {v1 : Nat} {v2 : Int32} {h : Hp}, rec_2 v1 v2 h = some r → G X d 80 2 [some (.ref 1), some (.ref v1), some (.int v2)] [] h) {h : Hp} {v1 : Nat} {v2 : Int32} (e : R_80_2 rec_2 v1 v2 h = some r) : G X d 80 2 [some (.ref 1), some (.ref v1), some (.int v2)] [] h := by
  unfold R_80_2 at e
  refine k_80_2 (fun c => ?_) (fun c => ?_)
  · rw [if_pos c] at e; exact r_80_29 hd hq e
  · rw [if_neg c] at e; exact r_80_10 hd hq hr_2 e
noncomputable def H_80_2 : Nat → Nat → Int32 → Hp → Option (Int32 × Hp)
  | 0, _, _, _ => none
  | n + 1, v1, v2, h => R_80_2 (H_80_2 n) v1 v2 h
theorem h_80_2 {X : GX} {d : Nat} {r : Int32 × Hp} (hd : 5 ≤ d) (hq : RtX X (some (.int r.1)) r.2) {n : Nat} {h : Hp} {v1 : Nat} {v2 : Int32} (e : H_80_2 n v1 v2 h = some r) : G X d 80 2 [some (.ref 1), some (.ref v1), some (.int v2)] [] h := by
  induction n generalizing v1 v2 h with
  | zero => cases e
  | succ n ih => exact r_80_2 hd hq (fun e => ih e) e
noncomputable def R_80_0 (v1 : Nat) (h : Hp) : Option (Int32 × Hp) := H_80_2 fuL v1 0 h
theorem r_80_0 {X : GX} {d : Nat} {r : Int32 × Hp} (hd : 5 ≤ d) (hq : RtX X (some (.int r.1)) r.2) {h : Hp} {v1 : Nat} (e : R_80_0 v1 h = some r) : G X d 80 0 [some (.ref 1), some (.ref v1), none] [] h := by
  unfold R_80_0 at e
  exact k_80_0 (h_80_2 hd hq e)
noncomputable def S_80 (v1 : Nat) (h : Hp) : Option (Int32 × Hp) := R_80_0 v1 h
set_option maxRecDepth 100000 in
theorem t_80 {v1 : Nat} {h : Hp} {r : Int32 × Hp} (e : S_80 v1 h = some r) : CI 5 80 [.ref 1, .ref v1] h (fun x g => x = r.1 ∧ g = r.2) := by
  refine C.of mo_80 (Nat.le_of_ble_eq_true rfl) (fun X hq => ?_)
  exact r_80_0 (Nat.le_refl _) (hq _ _ ⟨_, rfl, rfl, rfl⟩) e
/-! 82 PlayedTruth$Stage.mend(LPlayedTruth$Moment;I)I -/
noncomputable def R_82_49 (v3 : Int32) (h : Hp) : Option (Int32 × Hp) := some (v3, h)
theorem r_82_49 {X : GX} {d : Nat} {r : Int32 × Hp} (hd : 4 ≤ d) (hq : RtX X (some (.int r.1)) r.2) {h : Hp} {v3 : Int32} (e : R_82_49 v3 h = some r) : G X d 82 49 [none, none, none, some (.int v3)] [] h := by
  unfold R_82_49 at e
  rw [← Option.some.inj e] at hq
  exact k_82_49 hq
noncomputable def R_82_37 (v1 : Nat) (v2 : Int32) (v3 : Int32) (h : Hp) : Option (Int32 × Hp) := gd (sh v1 = (1, 3)) (some (v3, (wr h v1 2 ((h v1 2) ||| (1 <<< (v2 &&& 31))))))
theorem r_82_37 {X : GX} {d : Nat} {r : Int32 × Hp} (hd : 4 ≤ d) (hq : RtX X (some (.int r.1)) r.2) {h : Hp} {v1 : Nat} {v2 : Int32} {v3 : Int32} (e : R_82_37 v1 v2 v3 h = some r) : G X d 82 37 [none, some (.ref v1), some (.int v2), some (.int v3)] [] h := by
  unfold R_82_37 at e
  have g := gd_s e; clear e; obtain ⟨o0, e⟩ := g
  rw [← Option.some.inj e] at hq
  exact k_82_37 o0 hq
noncomputable def R_82_6 (v1 : Nat) (v2 : Int32) (s0 : Int32) (h : Hp) : Option (Int32 × Hp) := gd (sh v1 = (1, 3) ∧ IA (v1 + 1) v2) (if ((wr h (v1 + 1) (Int32.toNatClampNeg v2) (if ((h (v1 + 1) (Int32.toNatClampNeg v2)) + s0) < 99 then ((h (v1 + 1) (Int32.toNatClampNeg v2)) + s0) else 99)) (v1 + 1) (Int32.toNatClampNeg v2)) < 60 then R_82_49 s0 ((wr h (v1 + 1) (Int32.toNatClampNeg v2) (if ((h (v1 + 1) (Int32.toNatClampNeg v2)) + s0) < 99 then ((h (v1 + 1) (Int32.toNatClampNeg v2)) + s0) else 99))) else R_82_37 v1 v2 s0 ((wr h (v1 + 1) (Int32.toNatClampNeg v2) (if ((h (v1 + 1) (Int32.toNatClampNeg v2)) + s0) < 99 then ((h (v1 + 1) (Int32.toNatClampNeg v2)) + s0) else 99))))
set_option maxRecDepth 100000 in
theorem r_82_6 {X : GX} {d : Nat} {r : Int32 × Hp} (hd : 4 ≤ d) (hq : RtX X (some (.int r.1)) r.2) {h : Hp} {v1 : Nat} {v2 : Int32} {s0 : Int32} (e : R_82_6 v1 v2 s0 h = some r) : G X d 82 6 [none, some (.ref v1), some (.int v2), none] [.int s0] h := by
  unfold R_82_6 at e
  have g := gd_s e; clear e; obtain ⟨⟨o0, b1⟩, e⟩ := g
  refine k_82_6 o0 b1 (by omega) (fun c => ?_) (fun c => ?_)
  · rw [if_pos c] at e; exact r_82_49 hd hq e
  · rw [if_neg c] at e; exact r_82_37 hd hq e
noncomputable def R_82_0 (v1 : Nat) (v2 : Int32) (h : Hp) : Option (Int32 × Hp) := bndI (S_16 v1 v2 h) (R_82_6 v1 v2)
theorem r_82_0 {X : GX} {d : Nat} {r : Int32 × Hp} (hd : 4 ≤ d) (hq : RtX X (some (.int r.1)) r.2) {h : Hp} {v1 : Nat} {v2 : Int32} (e : R_82_0 v1 v2 h = some r) : G X d 82 0 [some (.ref 1), some (.ref v1), some (.int v2), none] [] h := by
  unfold R_82_0 at e
  obtain ⟨x, h2, e1, e2⟩ := bndI_s e
  refine k_82_0 (by omega) (t_16 e1) ?_
  rintro _ _ ⟨rfl, rfl⟩
  exact r_82_6 hd hq e2
noncomputable def S_82 (v1 : Nat) (v2 : Int32) (h : Hp) : Option (Int32 × Hp) := R_82_0 v1 v2 h
set_option maxRecDepth 100000 in
theorem t_82 {v1 : Nat} {v2 : Int32} {h : Hp} {r : Int32 × Hp} (e : S_82 v1 v2 h = some r) : CI 4 82 [.ref 1, .ref v1, .int v2] h (fun x g => x = r.1 ∧ g = r.2) := by
  refine C.of mo_82 (Nat.le_of_ble_eq_true rfl) (fun X hq => ?_)
  exact r_82_0 (Nat.le_refl _) (hq _ _ ⟨_, rfl, rfl, rfl⟩) e
/-! 84 PlayedTruth$Stage.trim(LPlayedTruth$Moment;I)I -/
noncomputable def R_84_47 (s1 : Int32) (s0 : Int32) (h : Hp) : Option (Int32 × Hp) := some ((s1 * (s0 - s0 / 4 * 4)), h)
theorem r_84_47 {X : GX} {d : Nat} {r : Int32 × Hp} (hd : 2 ≤ d) (hq : RtX X (some (.int r.1)) r.2) {h : Hp} {s1 : Int32} {s0 : Int32} (e : R_84_47 s1 s0 h = some r) : G X d 84 47 [none, none, none] [.int s0, .int s1] h := by
  unfold R_84_47 at e
  rw [← Option.some.inj e] at hq
  exact k_84_47 hq
noncomputable def R_84_0 (v1 : Nat) (v2 : Int32) (h : Hp) : Option (Int32 × Hp) := gd (sh v1 = (1, 3) ∧ IA (v1 + 2) v2 ∧ IA (v1 + 1) v2) (bndI (S_39 ((wr (wr h (v1 + 2) (Int32.toNatClampNeg v2) (if ((h (v1 + 2) (Int32.toNatClampNeg v2)) + 1) < 9 then ((h (v1 + 2) (Int32.toNatClampNeg v2)) + 1) else 9)) (v1 + 1) (Int32.toNatClampNeg v2) (if 0 < (((wr h (v1 + 2) (Int32.toNatClampNeg v2) (if ((h (v1 + 2) (Int32.toNatClampNeg v2)) + 1) < 9 then ((h (v1 + 2) (Int32.toNatClampNeg v2)) + 1) else 9)) (v1 + 1) (Int32.toNatClampNeg v2)) - 10) then (((wr h (v1 + 2) (Int32.toNatClampNeg v2) (if ((h (v1 + 2) (Int32.toNatClampNeg v2)) + 1) < 9 then ((h (v1 + 2) (Int32.toNatClampNeg v2)) + 1) else 9)) (v1 + 1) (Int32.toNatClampNeg v2)) - 10) else 0)) v1 3) ((wr (wr h (v1 + 2) (Int32.toNatClampNeg v2) (if ((h (v1 + 2) (Int32.toNatClampNeg v2)) + 1) < 9 then ((h (v1 + 2) (Int32.toNatClampNeg v2)) + 1) else 9)) (v1 + 1) (Int32.toNatClampNeg v2) (if 0 < (((wr h (v1 + 2) (Int32.toNatClampNeg v2) (if ((h (v1 + 2) (Int32.toNatClampNeg v2)) + 1) < 9 then ((h (v1 + 2) (Int32.toNatClampNeg v2)) + 1) else 9)) (v1 + 1) (Int32.toNatClampNeg v2)) - 10) then (((wr h (v1 + 2) (Int32.toNatClampNeg v2) (if ((h (v1 + 2) (Int32.toNatClampNeg v2)) + 1) < 9 then ((h (v1 + 2) (Int32.toNatClampNeg v2)) + 1) else 9)) (v1 + 1) (Int32.toNatClampNeg v2)) - 10) else 0)))) (R_84_47 2))
set_option maxRecDepth 100000 in
theorem r_84_0 {X : GX} {d : Nat} {r : Int32 × Hp} (hd : 2 ≤ d) (hq : RtX X (some (.int r.1)) r.2) {h : Hp} {v1 : Nat} {v2 : Int32} (e : R_84_0 v1 v2 h = some r) : G X d 84 0 [some (.ref 1), some (.ref v1), some (.int v2)] [] h := by
  unfold R_84_0 at e
  have g := gd_s e; clear e; obtain ⟨⟨o0, b1, b3⟩, e⟩ := g
  obtain ⟨x, h2, e1, e2⟩ := bndI_s e
  refine k_84_0 o0 b1 (by omega) b3 (by omega) (t_39 e1) ?_
  rintro _ _ ⟨rfl, rfl⟩
  exact r_84_47 hd hq e2
noncomputable def S_84 (v1 : Nat) (v2 : Int32) (h : Hp) : Option (Int32 × Hp) := R_84_0 v1 v2 h
set_option maxRecDepth 100000 in
theorem t_84 {v1 : Nat} {v2 : Int32} {h : Hp} {r : Int32 × Hp} (e : S_84 v1 v2 h = some r) : CI 2 84 [.ref 1, .ref v1, .int v2] h (fun x g => x = r.1 ∧ g = r.2) := by
  refine C.of mo_84 (Nat.le_of_ble_eq_true rfl) (fun X hq => ?_)
  exact r_84_0 (Nat.le_refl _) (hq _ _ ⟨_, rfl, rfl, rfl⟩) e
/-! 81 PlayedTruth$Stage.goBy(LPlayedTruth$Moment;I)I -/
noncomputable def R_81_139 (v1 : Nat) (v4 : Int32) (h : Hp) : Option (Int32 × Hp) := gd (sh v1 = (1, 3)) (some (v4, (wr (wr h v1 3 ((h v1 3) + 1)) v1 4 (((wr h v1 3 ((h v1 3) + 1)) v1 4) + v4))))
theorem r_81_139 {X : GX} {d : Nat} {r : Int32 × Hp} (hd : 5 ≤ d) (hq : RtX X (some (.int r.1)) r.2) {h : Hp} {v1 : Nat} {v4 : Int32} (e : R_81_139 v1 v4 h = some r) : G X d 81 139 [none, some (.ref v1), none, none, some (.int v4), none] [] h := by
  unfold R_81_139 at e
  have g := gd_s e; clear e; obtain ⟨o0, e⟩ := g
  rw [← Option.some.inj e] at hq
  exact k_81_139 o0 hq
noncomputable def R_81_133 (rec_95 : Nat → Int32 → Int32 → Hp → Option (Int32 × Hp)) (v1 : Nat) (v4 : Int32) (v5 : Int32) (h : Hp) : Option (Int32 × Hp) := rec_95 v1 v4 (v5 + 1) h
theorem r_81_133 {X : GX} {d : Nat} {r : Int32 × Hp} (hd : 5 ≤ d) (hq : RtX X (some (.int r.1)) r.2) {rec_95 : Nat → Int32 → Int32 → Hp → Option (Int32 × Hp)} (hr_95 : ∀ {v1 : Nat} {v4 : Int32} {v5 : Int32} {h : Hp}, rec_95 v1 v4 v5 h = some r → G X d 81 95 [some (.ref 1), some (.ref v1), none, none, some (.int v4), some (.int v5)] [] h) {h : Hp} {v1 : Nat} {v4 : Int32} {v5 : Int32} (e : R_81_133 rec_95 v1 v4 v5 h = some r) : G X d 81 133 [some (.ref 1), some (.ref v1), none, none, some (.int v4), some (.int v5)] [] h := by
  unfold R_81_133 at e
  exact k_81_133 (hr_95 e)
noncomputable def R_81_113 (rec_95 : Nat → Int32 → Int32 → Hp → Option (Int32 × Hp)) (v1 : Nat) (v4 : Int32) (v5 : Int32) (h : Hp) : Option (Int32 × Hp) := gd (sh v1 = (1, 3) ∧ IA (v1 + 1) v5) (rec_95 v1 v4 (v5 + 1) ((wr h (v1 + 1) (Int32.toNatClampNeg v5) (if 0 < ((h (v1 + 1) (Int32.toNatClampNeg v5)) - 1) then ((h (v1 + 1) (Int32.toNatClampNeg v5)) - 1) else 0))))
theorem r_81_113 {X : GX} {d : Nat} {r : Int32 × Hp} (hd : 5 ≤ d) (hq : RtX X (some (.int r.1)) r.2) {rec_95 : Nat → Int32 → Int32 → Hp → Option (Int32 × Hp)} (hr_95 : ∀ {v1 : Nat} {v4 : Int32} {v5 : Int32} {h : Hp}, rec_95 v1 v4 v5 h = some r → G X d 81 95 [some (.ref 1), some (.ref v1), none, none, some (.int v4), some (.int v5)] [] h) {h : Hp} {v1 : Nat} {v4 : Int32} {v5 : Int32} (e : R_81_113 rec_95 v1 v4 v5 h = some r) : G X d 81 113 [some (.ref 1), some (.ref v1), none, none, some (.int v4), some (.int v5)] [] h := by
  unfold R_81_113 at e
  have g := gd_s e; clear e; obtain ⟨⟨o0, b1⟩, e⟩ := g
  exact k_81_113 o0 b1 (by omega) (hr_95 e)
noncomputable def R_81_110 (rec_95 : Nat → Int32 → Int32 → Hp → Option (Int32 × Hp)) (v1 : Nat) (v4 : Int32) (v5 : Int32) (s0 : Int32) (h : Hp) : Option (Int32 × Hp) := if s0 = 0 then R_81_113 rec_95 v1 v4 v5 h else R_81_133 rec_95 v1 v4 v5 h
theorem r_81_110 {X : GX} {d : Nat} {r : Int32 × Hp} (hd : 5 ≤ d) (hq : RtX X (some (.int r.1)) r.2) {rec_95 : Nat → Int32 → Int32 → Hp → Option (Int32 × Hp)} (hr_95 : ∀ {v1 : Nat} {v4 : Int32} {v5 : Int32} {h : Hp}, rec_95 v1 v4 v5 h = some r → G X d 81 95 [some (.ref 1), some (.ref v1), none, none, some (.int v4), some (.int v5)] [] h) {h : Hp} {v1 : Nat} {v4 : Int32} {v5 : Int32} {s0 : Int32} (e : R_81_110 rec_95 v1 v4 v5 s0 h = some r) : G X d 81 110 [some (.ref 1), some (.ref v1), none, none, some (.int v4), some (.int v5)] [.int s0] h := by
  unfold R_81_110 at e
  refine k_81_110 (fun c => ?_) (fun c => ?_)
  · rw [if_neg c] at e; exact r_81_133 hd hq hr_95 e
  · rw [if_pos c] at e; exact r_81_113 hd hq hr_95 e
noncomputable def R_81_104 (rec_95 : Nat → Int32 → Int32 → Hp → Option (Int32 × Hp)) (v1 : Nat) (v4 : Int32) (v5 : Int32) (h : Hp) : Option (Int32 × Hp) := gd (sh v1 = (1, 3)) (bndI (S_15 v1 v5 h) (R_81_110 rec_95 v1 v4 v5))
theorem r_81_104 {X : GX} {d : Nat} {r : Int32 × Hp} (hd : 5 ≤ d) (hq : RtX X (some (.int r.1)) r.2) {rec_95 : Nat → Int32 → Int32 → Hp → Option (Int32 × Hp)} (hr_95 : ∀ {v1 : Nat} {v4 : Int32} {v5 : Int32} {h : Hp}, rec_95 v1 v4 v5 h = some r → G X d 81 95 [some (.ref 1), some (.ref v1), none, none, some (.int v4), some (.int v5)] [] h) {h : Hp} {v1 : Nat} {v4 : Int32} {v5 : Int32} (e : R_81_104 rec_95 v1 v4 v5 h = some r) : G X d 81 104 [some (.ref 1), some (.ref v1), none, none, some (.int v4), some (.int v5)] [] h := by
  unfold R_81_104 at e
  have g := gd_s e; clear e; obtain ⟨o0, e⟩ := g
  obtain ⟨x, h2, e1, e2⟩ := bndI_s e
  refine k_81_104 o0 (by omega) (t_15 e1) ?_
  rintro _ _ ⟨rfl, rfl⟩
  exact r_81_110 hd hq hr_95 e2
noncomputable def R_81_95 (rec_95 : Nat → Int32 → Int32 → Hp → Option (Int32 × Hp)) (v1 : Nat) (v4 : Int32) (v5 : Int32) (h : Hp) : Option (Int32 × Hp) := if (h 1 7) ≤ v5 then R_81_139 v1 v4 h else R_81_104 rec_95 v1 v4 v5 h
theorem r_81_95 {X : GX} {d : Nat} {r : Int32 × Hp} (hd : 5 ≤ d) (hq : RtX X (some (.int r.1)) r.2) {rec_95 : Nat → Int32 → Int32 → Hp → Option (Int32 × Hp)} (hr_95 : ∀ {v1 : Nat} {v4 : Int32} {v5 : Int32} {h : Hp}, rec_95 v1 v4 v5 h = some r → G X d 81 95 [some (.ref 1), some (.ref v1), none, none, some (.int v4), some (.int v5)] [] h) {h : Hp} {v1 : Nat} {v4 : Int32} {v5 : Int32} (e : R_81_95 rec_95 v1 v4 v5 h = some r) : G X d 81 95 [some (.ref 1), some (.ref v1), none, none, some (.int v4), some (.int v5)] [] h := by
  unfold R_81_95 at e
  refine k_81_95 (fun c => ?_) (fun c => ?_)
  · rw [if_pos c] at e; exact r_81_139 hd hq e
  · rw [if_neg c] at e; exact r_81_104 hd hq hr_95 e
noncomputable def H_81_95 : Nat → Nat → Int32 → Int32 → Hp → Option (Int32 × Hp)
  | 0, _, _, _, _ => none
  | n + 1, v1, v4, v5, h => R_81_95 (H_81_95 n) v1 v4 v5 h
theorem h_81_95 {X : GX} {d : Nat} {r : Int32 × Hp} (hd : 5 ≤ d) (hq : RtX X (some (.int r.1)) r.2) {n : Nat} {h : Hp} {v1 : Nat} {v4 : Int32} {v5 : Int32} (e : H_81_95 n v1 v4 v5 h = some r) : G X d 81 95 [some (.ref 1), some (.ref v1), none, none, some (.int v4), some (.int v5)] [] h := by
  induction n generalizing v1 v4 v5 h with
  | zero => cases e
  | succ n ih => exact r_81_95 hd hq (fun e => ih e) e
noncomputable def R_81_92 (v1 : Nat) (v4 : Int32) (h : Hp) : Option (Int32 × Hp) := H_81_95 fuL v1 v4 0 h
theorem r_81_92 {X : GX} {d : Nat} {r : Int32 × Hp} (hd : 5 ≤ d) (hq : RtX X (some (.int r.1)) r.2) {h : Hp} {v1 : Nat} {v4 : Int32} (e : R_81_92 v1 v4 h = some r) : G X d 81 92 [some (.ref 1), some (.ref v1), none, none, some (.int v4), none] [] h := by
  unfold R_81_92 at e
  exact k_81_92 (h_81_95 hd hq e)
noncomputable def R_81_83 (rec_65 : Nat → Int32 → Int32 → Hp → Option (Int32 × Hp)) (v1 : Nat) (v5 : Int32) (s1 : Int32) (s0 : Int32) (h : Hp) : Option (Int32 × Hp) := rec_65 v1 (s1 + s0) (v5 + 1) h
theorem r_81_83 {X : GX} {d : Nat} {r : Int32 × Hp} (hd : 5 ≤ d) (hq : RtX X (some (.int r.1)) r.2) {rec_65 : Nat → Int32 → Int32 → Hp → Option (Int32 × Hp)} (hr_65 : ∀ {v1 : Nat} {v4 : Int32} {v5 : Int32} {h : Hp}, rec_65 v1 v4 v5 h = some r → G X d 81 65 [some (.ref 1), some (.ref v1), none, none, some (.int v4), some (.int v5)] [] h) {h : Hp} {v1 : Nat} {v5 : Int32} {s1 : Int32} {s0 : Int32} (e : R_81_83 rec_65 v1 v5 s1 s0 h = some r) : G X d 81 83 [some (.ref 1), some (.ref v1), none, none, none, some (.int v5)] [.int s0, .int s1] h := by
  unfold R_81_83 at e
  exact k_81_83 (hr_65 e)
noncomputable def R_81_74 (rec_65 : Nat → Int32 → Int32 → Hp → Option (Int32 × Hp)) (v1 : Nat) (v4 : Int32) (v5 : Int32) (h : Hp) : Option (Int32 × Hp) := bndI (S_21 v1 v5 h) (R_81_83 rec_65 v1 v5 v4)
theorem r_81_74 {X : GX} {d : Nat} {r : Int32 × Hp} (hd : 5 ≤ d) (hq : RtX X (some (.int r.1)) r.2) {rec_65 : Nat → Int32 → Int32 → Hp → Option (Int32 × Hp)} (hr_65 : ∀ {v1 : Nat} {v4 : Int32} {v5 : Int32} {h : Hp}, rec_65 v1 v4 v5 h = some r → G X d 81 65 [some (.ref 1), some (.ref v1), none, none, some (.int v4), some (.int v5)] [] h) {h : Hp} {v1 : Nat} {v4 : Int32} {v5 : Int32} (e : R_81_74 rec_65 v1 v4 v5 h = some r) : G X d 81 74 [some (.ref 1), some (.ref v1), none, none, some (.int v4), some (.int v5)] [] h := by
  unfold R_81_74 at e
  obtain ⟨x, h2, e1, e2⟩ := bndI_s e
  refine k_81_74 (by omega) (t_21 e1) ?_
  rintro _ _ ⟨rfl, rfl⟩
  exact r_81_83 hd hq hr_65 e2
noncomputable def R_81_65 (rec_65 : Nat → Int32 → Int32 → Hp → Option (Int32 × Hp)) (v1 : Nat) (v4 : Int32) (v5 : Int32) (h : Hp) : Option (Int32 × Hp) := if (h 1 7) ≤ v5 then R_81_92 v1 v4 h else R_81_74 rec_65 v1 v4 v5 h
theorem r_81_65 {X : GX} {d : Nat} {r : Int32 × Hp} (hd : 5 ≤ d) (hq : RtX X (some (.int r.1)) r.2) {rec_65 : Nat → Int32 → Int32 → Hp → Option (Int32 × Hp)} (hr_65 : ∀ {v1 : Nat} {v4 : Int32} {v5 : Int32} {h : Hp}, rec_65 v1 v4 v5 h = some r → G X d 81 65 [some (.ref 1), some (.ref v1), none, none, some (.int v4), some (.int v5)] [] h) {h : Hp} {v1 : Nat} {v4 : Int32} {v5 : Int32} (e : R_81_65 rec_65 v1 v4 v5 h = some r) : G X d 81 65 [some (.ref 1), some (.ref v1), none, none, some (.int v4), some (.int v5)] [] h := by
  unfold R_81_65 at e
  refine k_81_65 (fun c => ?_) (fun c => ?_)
  · rw [if_pos c] at e; exact r_81_92 hd hq e
  · rw [if_neg c] at e; exact r_81_74 hd hq hr_65 e
noncomputable def H_81_65 : Nat → Nat → Int32 → Int32 → Hp → Option (Int32 × Hp)
  | 0, _, _, _, _ => none
  | n + 1, v1, v4, v5, h => R_81_65 (H_81_65 n) v1 v4 v5 h
theorem h_81_65 {X : GX} {d : Nat} {r : Int32 × Hp} (hd : 5 ≤ d) (hq : RtX X (some (.int r.1)) r.2) {n : Nat} {h : Hp} {v1 : Nat} {v4 : Int32} {v5 : Int32} (e : H_81_65 n v1 v4 v5 h = some r) : G X d 81 65 [some (.ref 1), some (.ref v1), none, none, some (.int v4), some (.int v5)] [] h := by
  induction n generalizing v1 v4 v5 h with
  | zero => cases e
  | succ n ih => exact r_81_65 hd hq (fun e => ih e) e
noncomputable def R_81_62 (v1 : Nat) (v4 : Int32) (h : Hp) : Option (Int32 × Hp) := H_81_65 fuL v1 v4 0 h
theorem r_81_62 {X : GX} {d : Nat} {r : Int32 × Hp} (hd : 5 ≤ d) (hq : RtX X (some (.int r.1)) r.2) {h : Hp} {v1 : Nat} {v4 : Int32} (e : R_81_62 v1 v4 h = some r) : G X d 81 62 [some (.ref 1), some (.ref v1), none, none, some (.int v4), none] [] h := by
  unfold R_81_62 at e
  exact k_81_62 (h_81_65 hd hq e)
noncomputable def R_81_60 (v1 : Nat) (s0 : Int32) (h : Hp) : Option (Int32 × Hp) := H_81_65 fuL v1 s0 0 h
theorem r_81_60 {X : GX} {d : Nat} {r : Int32 × Hp} (hd : 5 ≤ d) (hq : RtX X (some (.int r.1)) r.2) {h : Hp} {v1 : Nat} {s0 : Int32} (e : R_81_60 v1 s0 h = some r) : G X d 81 60 [some (.ref 1), some (.ref v1), none, none, none, none] [.int s0] h := by
  unfold R_81_60 at e
  exact k_81_60 (h_81_65 hd hq e)
noncomputable def R_81_54 (v1 : Nat) (v3 : Int32) (h : Hp) : Option (Int32 × Hp) := bndI (S_84 v1 v3 h) (R_81_60 v1)
theorem r_81_54 {X : GX} {d : Nat} {r : Int32 × Hp} (hd : 5 ≤ d) (hq : RtX X (some (.int r.1)) r.2) {h : Hp} {v1 : Nat} {v3 : Int32} (e : R_81_54 v1 v3 h = some r) : G X d 81 54 [some (.ref 1), some (.ref v1), none, some (.int v3), none, none] [] h := by
  unfold R_81_54 at e
  obtain ⟨x, h2, e1, e2⟩ := bndI_s e
  refine k_81_54 (by omega) (t_84 e1) ?_
  rintro _ _ ⟨rfl, rfl⟩
  exact r_81_60 hd hq e2
noncomputable def R_81_48 (v1 : Nat) (v3 : Int32) (v4 : Int32) (v5 : Int32) (h : Hp) : Option (Int32 × Hp) := if v5 = 2 then R_81_54 v1 v3 h else R_81_62 v1 v4 h
theorem r_81_48 {X : GX} {d : Nat} {r : Int32 × Hp} (hd : 5 ≤ d) (hq : RtX X (some (.int r.1)) r.2) {h : Hp} {v1 : Nat} {v3 : Int32} {v4 : Int32} {v5 : Int32} (e : R_81_48 v1 v3 v4 v5 h = some r) : G X d 81 48 [some (.ref 1), some (.ref v1), none, some (.int v3), some (.int v4), some (.int v5)] [] h := by
  unfold R_81_48 at e
  refine k_81_48 (fun c => ?_) (fun c => ?_)
  · rw [if_neg c] at e; exact r_81_62 hd hq e
  · rw [if_pos c] at e; exact r_81_54 hd hq e
noncomputable def R_81_46 (v1 : Nat) (v3 : Int32) (v5 : Int32) (s0 : Int32) (h : Hp) : Option (Int32 × Hp) := if v5 = 2 then R_81_54 v1 v3 h else R_81_62 v1 s0 h
theorem r_81_46 {X : GX} {d : Nat} {r : Int32 × Hp} (hd : 5 ≤ d) (hq : RtX X (some (.int r.1)) r.2) {h : Hp} {v1 : Nat} {v3 : Int32} {v5 : Int32} {s0 : Int32} (e : R_81_46 v1 v3 v5 s0 h = some r) : G X d 81 46 [some (.ref 1), some (.ref v1), none, some (.int v3), none, some (.int v5)] [.int s0] h := by
  unfold R_81_46 at e
  refine k_81_46 (fun c => ?_) (fun c => ?_)
  · rw [if_neg c] at e; exact r_81_62 hd hq e
  · rw [if_pos c] at e; exact r_81_54 hd hq e
noncomputable def R_81_40 (v1 : Nat) (v3 : Int32) (v5 : Int32) (h : Hp) : Option (Int32 × Hp) := bndI (S_82 v1 v3 h) (R_81_46 v1 v3 v5)
theorem r_81_40 {X : GX} {d : Nat} {r : Int32 × Hp} (hd : 5 ≤ d) (hq : RtX X (some (.int r.1)) r.2) {h : Hp} {v1 : Nat} {v3 : Int32} {v5 : Int32} (e : R_81_40 v1 v3 v5 h = some r) : G X d 81 40 [some (.ref 1), some (.ref v1), none, some (.int v3), none, some (.int v5)] [] h := by
  unfold R_81_40 at e
  obtain ⟨x, h2, e1, e2⟩ := bndI_s e
  refine k_81_40 (by omega) (t_82 e1) ?_
  rintro _ _ ⟨rfl, rfl⟩
  exact r_81_46 hd hq e2
noncomputable def R_81_33 (v1 : Nat) (v3 : Int32) (v4 : Int32) (s0 : Int32) (h : Hp) : Option (Int32 × Hp) := if s0 = 0 then R_81_40 v1 v3 s0 h else R_81_48 v1 v3 v4 s0 h
theorem r_81_33 {X : GX} {d : Nat} {r : Int32 × Hp} (hd : 5 ≤ d) (hq : RtX X (some (.int r.1)) r.2) {h : Hp} {v1 : Nat} {v3 : Int32} {v4 : Int32} {s0 : Int32} (e : R_81_33 v1 v3 v4 s0 h = some r) : G X d 81 33 [some (.ref 1), some (.ref v1), none, some (.int v3), some (.int v4), none] [.int s0] h := by
  unfold R_81_33 at e
  refine k_81_33 (fun c => ?_) (fun c => ?_)
  · rw [if_neg c] at e; exact r_81_48 hd hq e
  · rw [if_pos c] at e; exact r_81_40 hd hq e
noncomputable def R_81_27 (v1 : Nat) (v3 : Int32) (v4 : Int32) (h : Hp) : Option (Int32 × Hp) := bndI (S_24 v1 v3 h) (R_81_33 v1 v3 v4)
theorem r_81_27 {X : GX} {d : Nat} {r : Int32 × Hp} (hd : 5 ≤ d) (hq : RtX X (some (.int r.1)) r.2) {h : Hp} {v1 : Nat} {v3 : Int32} {v4 : Int32} (e : R_81_27 v1 v3 v4 h = some r) : G X d 81 27 [some (.ref 1), some (.ref v1), none, some (.int v3), some (.int v4), none] [] h := by
  unfold R_81_27 at e
  obtain ⟨x, h2, e1, e2⟩ := bndI_s e
  refine k_81_27 (by omega) (t_24 e1) ?_
  rintro _ _ ⟨rfl, rfl⟩
  exact r_81_33 hd hq e2
noncomputable def R_81_24 (v1 : Nat) (v3 : Int32) (v4 : Int32) (s0 : Int32) (h : Hp) : Option (Int32 × Hp) := if s0 = 0 then R_81_27 v1 v3 v4 h else R_81_62 v1 v4 h
theorem r_81_24 {X : GX} {d : Nat} {r : Int32 × Hp} (hd : 5 ≤ d) (hq : RtX X (some (.int r.1)) r.2) {h : Hp} {v1 : Nat} {v3 : Int32} {v4 : Int32} {s0 : Int32} (e : R_81_24 v1 v3 v4 s0 h = some r) : G X d 81 24 [some (.ref 1), some (.ref v1), none, some (.int v3), some (.int v4), none] [.int s0] h := by
  unfold R_81_24 at e
  refine k_81_24 (fun c => ?_) (fun c => ?_)
  · rw [if_neg c] at e; exact r_81_62 hd hq e
  · rw [if_pos c] at e; exact r_81_27 hd hq e
noncomputable def R_81_19 (v1 : Nat) (v3 : Int32) (v4 : Int32) (h : Hp) : Option (Int32 × Hp) := gd (sh v1 = (1, 3)) (bndI (S_15 v1 v3 h) (R_81_24 v1 v3 v4))
theorem r_81_19 {X : GX} {d : Nat} {r : Int32 × Hp} (hd : 5 ≤ d) (hq : RtX X (some (.int r.1)) r.2) {h : Hp} {v1 : Nat} {v3 : Int32} {v4 : Int32} (e : R_81_19 v1 v3 v4 h = some r) : G X d 81 19 [some (.ref 1), some (.ref v1), none, some (.int v3), some (.int v4), none] [] h := by
  unfold R_81_19 at e
  have g := gd_s e; clear e; obtain ⟨o0, e⟩ := g
  obtain ⟨x, h2, e1, e2⟩ := bndI_s e
  refine k_81_19 o0 (by omega) (t_15 e1) ?_
  rintro _ _ ⟨rfl, rfl⟩
  exact r_81_24 hd hq e2
noncomputable def R_81_11 (v1 : Nat) (v3 : Int32) (v4 : Int32) (h : Hp) : Option (Int32 × Hp) := if (h 1 7) ≤ v3 then R_81_62 v1 v4 h else R_81_19 v1 v3 v4 h
theorem r_81_11 {X : GX} {d : Nat} {r : Int32 × Hp} (hd : 5 ≤ d) (hq : RtX X (some (.int r.1)) r.2) {h : Hp} {v1 : Nat} {v3 : Int32} {v4 : Int32} (e : R_81_11 v1 v3 v4 h = some r) : G X d 81 11 [some (.ref 1), some (.ref v1), none, some (.int v3), some (.int v4), none] [] h := by
  unfold R_81_11 at e
  refine k_81_11 (fun c => ?_) (fun c => ?_)
  · rw [if_pos c] at e; exact r_81_62 hd hq e
  · rw [if_neg c] at e; exact r_81_19 hd hq e
noncomputable def R_81_0 (v1 : Nat) (v2 : Int32) (h : Hp) : Option (Int32 × Hp) := if (v2 - 1) < 0 then R_81_62 v1 0 h else R_81_11 v1 (v2 - 1) 0 h
theorem r_81_0 {X : GX} {d : Nat} {r : Int32 × Hp} (hd : 5 ≤ d) (hq : RtX X (some (.int r.1)) r.2) {h : Hp} {v1 : Nat} {v2 : Int32} (e : R_81_0 v1 v2 h = some r) : G X d 81 0 [some (.ref 1), some (.ref v1), some (.int v2), none, none, none] [] h := by
  unfold R_81_0 at e
  refine k_81_0 (fun c => ?_) (fun c => ?_)
  · rw [if_pos c] at e; exact r_81_62 hd hq e
  · rw [if_neg c] at e; exact r_81_11 hd hq e
noncomputable def S_81 (v1 : Nat) (v2 : Int32) (h : Hp) : Option (Int32 × Hp) := R_81_0 v1 v2 h
set_option maxRecDepth 100000 in
theorem t_81 {v1 : Nat} {v2 : Int32} {h : Hp} {r : Int32 × Hp} (e : S_81 v1 v2 h = some r) : CI 5 81 [.ref 1, .ref v1, .int v2] h (fun x g => x = r.1 ∧ g = r.2) := by
  refine C.of mo_81 (Nat.le_of_ble_eq_true rfl) (fun X hq => ?_)
  exact r_81_0 (Nat.le_refl _) (hq _ _ ⟨_, rfl, rfl, rfl⟩) e
/-! 79 PlayedTruth.night()I -/
noncomputable def R_79_39 (s0 : Int32) (h : Hp) : Option (Int32 × Hp) := some (s0, h)
theorem r_79_39 {X : GX} {d : Nat} {r : Int32 × Hp} (hd : 6 ≤ d) (hq : RtX X (some (.int r.1)) r.2) {h : Hp} {s0 : Int32} (e : R_79_39 s0 h = some r) : G X d 79 39 [none] [.int s0] h := by
  unfold R_79_39 at e
  rw [← Option.some.inj e] at hq
  exact k_79_39 hq
noncomputable def R_79_36 (s1 : Nat) (s2 : Nat) (s0 : Int32) (h : Hp) : Option (Int32 × Hp) := gd (sh s2 = (1, 6) ∧ s2 = 1) (bndI (S_81 s1 s0 h) (R_79_39))
theorem r_79_36 {X : GX} {d : Nat} {r : Int32 × Hp} (hd : 6 ≤ d) (hq : RtX X (some (.int r.1)) r.2) {h : Hp} {s1 : Nat} {s2 : Nat} {s0 : Int32} (e : R_79_36 s1 s2 s0 h = some r) : G X d 79 36 [none] [.int s0, .ref s1, .ref s2] h := by
  unfold R_79_36 at e
  have g := gd_s e; clear e; obtain ⟨⟨o0, q0⟩, e⟩ := g
  subst q0
  obtain ⟨x, h2, e1, e2⟩ := bndI_s e
  refine k_79_36 o0 (by omega) (t_81 e1) ?_
  rintro _ _ ⟨rfl, rfl⟩
  exact r_79_39 hd hq e2
noncomputable def R_79_17 (h : Hp) : Option (Int32 × Hp) := bndI (S_80 13 h) (R_79_36 13 1)
theorem r_79_17 {X : GX} {d : Nat} {r : Int32 × Hp} (hd : 6 ≤ d) (hq : RtX X (some (.int r.1)) r.2) {h : Hp} (e : R_79_17 h = some r) : G X d 79 17 [some (.ref 0)] [] h := by
  unfold R_79_17 at e
  obtain ⟨x, h2, e1, e2⟩ := bndI_s e
  refine k_79_17 (by omega) (t_80 e1) ?_
  rintro _ _ ⟨rfl, rfl⟩
  exact r_79_36 hd hq e2
noncomputable def R_79_14 (h : Hp) : Option (Int32 × Hp) := some (((-4)), h)
theorem r_79_14 {X : GX} {d : Nat} {r : Int32 × Hp} (hd : 6 ≤ d) (hq : RtX X (some (.int r.1)) r.2) {h : Hp} (e : R_79_14 h = some r) : G X d 79 14 [none] [] h := by
  unfold R_79_14 at e
  rw [← Option.some.inj e] at hq
  exact k_79_14 hq
noncomputable def R_79_11 (s0 : Int32) (h : Hp) : Option (Int32 × Hp) := if s0 = 0 then R_79_17 h else R_79_14 h
theorem r_79_11 {X : GX} {d : Nat} {r : Int32 × Hp} (hd : 6 ≤ d) (hq : RtX X (some (.int r.1)) r.2) {h : Hp} {s0 : Int32} (e : R_79_11 s0 h = some r) : G X d 79 11 [some (.ref 0)] [.int s0] h := by
  unfold R_79_11 at e
  refine k_79_11 (fun c => ?_) (fun c => ?_)
  · rw [if_pos c] at e; exact r_79_17 hd hq e
  · rw [if_neg c] at e; exact r_79_14 hd hq e
noncomputable def R_79_0 (h : Hp) : Option (Int32 × Hp) := bndI (S_38 13 h) (R_79_11)
theorem r_79_0 {X : GX} {d : Nat} {r : Int32 × Hp} (hd : 6 ≤ d) (hq : RtX X (some (.int r.1)) r.2) {h : Hp} (e : R_79_0 h = some r) : G X d 79 0 [some (.ref 0)] [] h := by
  unfold R_79_0 at e
  obtain ⟨x, h2, e1, e2⟩ := bndI_s e
  refine k_79_0 (by omega) (t_38 e1) ?_
  rintro _ _ ⟨rfl, rfl⟩
  exact r_79_11 hd hq e2
noncomputable def S_79 (h : Hp) : Option (Int32 × Hp) := R_79_0 h
set_option maxRecDepth 100000 in
theorem t_79 {h : Hp} {r : Int32 × Hp} (e : S_79 h = some r) : CI 6 79 [.ref 0] h (fun x g => x = r.1 ∧ g = r.2) := by
  refine C.of mo_79 (Nat.le_of_ble_eq_true rfl) (fun X hq => ?_)
  exact r_79_0 (Nat.le_refl _) (hq _ _ ⟨_, rfl, rfl, rfl⟩) e
/-! 88 PlayedTruth$Moment.copyFrom(LPlayedTruth$Moment;)V -/
noncomputable def R_88_0 (v0 : Nat) (v1 : Nat) (h : Hp) : Option (Int32 × Hp) := gd (sh v1 = (1, 3) ∧ sh v0 = (1, 3) ∧ sh (v1 + 1) = (0, 6) ∧ sh (v0 + 1) = (0, 6) ∧ sh (v1 + 2) = (0, 6) ∧ sh (v0 + 2) = (0, 6)) (some (0, (wr (wr (wr (wr (wrA (wrA h (v0 + 1) (va_cpy (h (v1 + 1)) (h (v0 + 1)) (Int32.toNatClampNeg 0) (Int32.toNatClampNeg 0) (Int32.toNatClampNeg 6))) (v0 + 2) (va_cpy ((wrA h (v0 + 1) (va_cpy (h (v1 + 1)) (h (v0 + 1)) (Int32.toNatClampNeg 0) (Int32.toNatClampNeg 0) (Int32.toNatClampNeg 6))) (v1 + 2)) ((wrA h (v0 + 1) (va_cpy (h (v1 + 1)) (h (v0 + 1)) (Int32.toNatClampNeg 0) (Int32.toNatClampNeg 0) (Int32.toNatClampNeg 6))) (v0 + 2)) (Int32.toNatClampNeg 0) (Int32.toNatClampNeg 0) (Int32.toNatClampNeg 6))) v0 2 ((wrA (wrA h (v0 + 1) (va_cpy (h (v1 + 1)) (h (v0 + 1)) (Int32.toNatClampNeg 0) (Int32.toNatClampNeg 0) (Int32.toNatClampNeg 6))) (v0 + 2) (va_cpy ((wrA h (v0 + 1) (va_cpy (h (v1 + 1)) (h (v0 + 1)) (Int32.toNatClampNeg 0) (Int32.toNatClampNeg 0) (Int32.toNatClampNeg 6))) (v1 + 2)) ((wrA h (v0 + 1) (va_cpy (h (v1 + 1)) (h (v0 + 1)) (Int32.toNatClampNeg 0) (Int32.toNatClampNeg 0) (Int32.toNatClampNeg 6))) (v0 + 2)) (Int32.toNatClampNeg 0) (Int32.toNatClampNeg 0) (Int32.toNatClampNeg 6))) v1 2)) v0 3 ((wr (wrA (wrA h (v0 + 1) (va_cpy (h (v1 + 1)) (h (v0 + 1)) (Int32.toNatClampNeg 0) (Int32.toNatClampNeg 0) (Int32.toNatClampNeg 6))) (v0 + 2) (va_cpy ((wrA h (v0 + 1) (va_cpy (h (v1 + 1)) (h (v0 + 1)) (Int32.toNatClampNeg 0) (Int32.toNatClampNeg 0) (Int32.toNatClampNeg 6))) (v1 + 2)) ((wrA h (v0 + 1) (va_cpy (h (v1 + 1)) (h (v0 + 1)) (Int32.toNatClampNeg 0) (Int32.toNatClampNeg 0) (Int32.toNatClampNeg 6))) (v0 + 2)) (Int32.toNatClampNeg 0) (Int32.toNatClampNeg 0) (Int32.toNatClampNeg 6))) v0 2 ((wrA (wrA h (v0 + 1) (va_cpy (h (v1 + 1)) (h (v0 + 1)) (Int32.toNatClampNeg 0) (Int32.toNatClampNeg 0) (Int32.toNatClampNeg 6))) (v0 + 2) (va_cpy ((wrA h (v0 + 1) (va_cpy (h (v1 + 1)) (h (v0 + 1)) (Int32.toNatClampNeg 0) (Int32.toNatClampNeg 0) (Int32.toNatClampNeg 6))) (v1 + 2)) ((wrA h (v0 + 1) (va_cpy (h (v1 + 1)) (h (v0 + 1)) (Int32.toNatClampNeg 0) (Int32.toNatClampNeg 0) (Int32.toNatClampNeg 6))) (v0 + 2)) (Int32.toNatClampNeg 0) (Int32.toNatClampNeg 0) (Int32.toNatClampNeg 6))) v1 2)) v1 3)) v0 4 ((wr (wr (wrA (wrA h (v0 + 1) (va_cpy (h (v1 + 1)) (h (v0 + 1)) (Int32.toNatClampNeg 0) (Int32.toNatClampNeg 0) (Int32.toNatClampNeg 6))) (v0 + 2) (va_cpy ((wrA h (v0 + 1) (va_cpy (h (v1 + 1)) (h (v0 + 1)) (Int32.toNatClampNeg 0) (Int32.toNatClampNeg 0) (Int32.toNatClampNeg 6))) (v1 + 2)) ((wrA h (v0 + 1) (va_cpy (h (v1 + 1)) (h (v0 + 1)) (Int32.toNatClampNeg 0) (Int32.toNatClampNeg 0) (Int32.toNatClampNeg 6))) (v0 + 2)) (Int32.toNatClampNeg 0) (Int32.toNatClampNeg 0) (Int32.toNatClampNeg 6))) v0 2 ((wrA (wrA h (v0 + 1) (va_cpy (h (v1 + 1)) (h (v0 + 1)) (Int32.toNatClampNeg 0) (Int32.toNatClampNeg 0) (Int32.toNatClampNeg 6))) (v0 + 2) (va_cpy ((wrA h (v0 + 1) (va_cpy (h (v1 + 1)) (h (v0 + 1)) (Int32.toNatClampNeg 0) (Int32.toNatClampNeg 0) (Int32.toNatClampNeg 6))) (v1 + 2)) ((wrA h (v0 + 1) (va_cpy (h (v1 + 1)) (h (v0 + 1)) (Int32.toNatClampNeg 0) (Int32.toNatClampNeg 0) (Int32.toNatClampNeg 6))) (v0 + 2)) (Int32.toNatClampNeg 0) (Int32.toNatClampNeg 0) (Int32.toNatClampNeg 6))) v1 2)) v0 3 ((wr (wrA (wrA h (v0 + 1) (va_cpy (h (v1 + 1)) (h (v0 + 1)) (Int32.toNatClampNeg 0) (Int32.toNatClampNeg 0) (Int32.toNatClampNeg 6))) (v0 + 2) (va_cpy ((wrA h (v0 + 1) (va_cpy (h (v1 + 1)) (h (v0 + 1)) (Int32.toNatClampNeg 0) (Int32.toNatClampNeg 0) (Int32.toNatClampNeg 6))) (v1 + 2)) ((wrA h (v0 + 1) (va_cpy (h (v1 + 1)) (h (v0 + 1)) (Int32.toNatClampNeg 0) (Int32.toNatClampNeg 0) (Int32.toNatClampNeg 6))) (v0 + 2)) (Int32.toNatClampNeg 0) (Int32.toNatClampNeg 0) (Int32.toNatClampNeg 6))) v0 2 ((wrA (wrA h (v0 + 1) (va_cpy (h (v1 + 1)) (h (v0 + 1)) (Int32.toNatClampNeg 0) (Int32.toNatClampNeg 0) (Int32.toNatClampNeg 6))) (v0 + 2) (va_cpy ((wrA h (v0 + 1) (va_cpy (h (v1 + 1)) (h (v0 + 1)) (Int32.toNatClampNeg 0) (Int32.toNatClampNeg 0) (Int32.toNatClampNeg 6))) (v1 + 2)) ((wrA h (v0 + 1) (va_cpy (h (v1 + 1)) (h (v0 + 1)) (Int32.toNatClampNeg 0) (Int32.toNatClampNeg 0) (Int32.toNatClampNeg 6))) (v0 + 2)) (Int32.toNatClampNeg 0) (Int32.toNatClampNeg 0) (Int32.toNatClampNeg 6))) v1 2)) v1 3)) v1 4)) v0 5 ((wr (wr (wr (wrA (wrA h (v0 + 1) (va_cpy (h (v1 + 1)) (h (v0 + 1)) (Int32.toNatClampNeg 0) (Int32.toNatClampNeg 0) (Int32.toNatClampNeg 6))) (v0 + 2) (va_cpy ((wrA h (v0 + 1) (va_cpy (h (v1 + 1)) (h (v0 + 1)) (Int32.toNatClampNeg 0) (Int32.toNatClampNeg 0) (Int32.toNatClampNeg 6))) (v1 + 2)) ((wrA h (v0 + 1) (va_cpy (h (v1 + 1)) (h (v0 + 1)) (Int32.toNatClampNeg 0) (Int32.toNatClampNeg 0) (Int32.toNatClampNeg 6))) (v0 + 2)) (Int32.toNatClampNeg 0) (Int32.toNatClampNeg 0) (Int32.toNatClampNeg 6))) v0 2 ((wrA (wrA h (v0 + 1) (va_cpy (h (v1 + 1)) (h (v0 + 1)) (Int32.toNatClampNeg 0) (Int32.toNatClampNeg 0) (Int32.toNatClampNeg 6))) (v0 + 2) (va_cpy ((wrA h (v0 + 1) (va_cpy (h (v1 + 1)) (h (v0 + 1)) (Int32.toNatClampNeg 0) (Int32.toNatClampNeg 0) (Int32.toNatClampNeg 6))) (v1 + 2)) ((wrA h (v0 + 1) (va_cpy (h (v1 + 1)) (h (v0 + 1)) (Int32.toNatClampNeg 0) (Int32.toNatClampNeg 0) (Int32.toNatClampNeg 6))) (v0 + 2)) (Int32.toNatClampNeg 0) (Int32.toNatClampNeg 0) (Int32.toNatClampNeg 6))) v1 2)) v0 3 ((wr (wrA (wrA h (v0 + 1) (va_cpy (h (v1 + 1)) (h (v0 + 1)) (Int32.toNatClampNeg 0) (Int32.toNatClampNeg 0) (Int32.toNatClampNeg 6))) (v0 + 2) (va_cpy ((wrA h (v0 + 1) (va_cpy (h (v1 + 1)) (h (v0 + 1)) (Int32.toNatClampNeg 0) (Int32.toNatClampNeg 0) (Int32.toNatClampNeg 6))) (v1 + 2)) ((wrA h (v0 + 1) (va_cpy (h (v1 + 1)) (h (v0 + 1)) (Int32.toNatClampNeg 0) (Int32.toNatClampNeg 0) (Int32.toNatClampNeg 6))) (v0 + 2)) (Int32.toNatClampNeg 0) (Int32.toNatClampNeg 0) (Int32.toNatClampNeg 6))) v0 2 ((wrA (wrA h (v0 + 1) (va_cpy (h (v1 + 1)) (h (v0 + 1)) (Int32.toNatClampNeg 0) (Int32.toNatClampNeg 0) (Int32.toNatClampNeg 6))) (v0 + 2) (va_cpy ((wrA h (v0 + 1) (va_cpy (h (v1 + 1)) (h (v0 + 1)) (Int32.toNatClampNeg 0) (Int32.toNatClampNeg 0) (Int32.toNatClampNeg 6))) (v1 + 2)) ((wrA h (v0 + 1) (va_cpy (h (v1 + 1)) (h (v0 + 1)) (Int32.toNatClampNeg 0) (Int32.toNatClampNeg 0) (Int32.toNatClampNeg 6))) (v0 + 2)) (Int32.toNatClampNeg 0) (Int32.toNatClampNeg 0) (Int32.toNatClampNeg 6))) v1 2)) v1 3)) v0 4 ((wr (wr (wrA (wrA h (v0 + 1) (va_cpy (h (v1 + 1)) (h (v0 + 1)) (Int32.toNatClampNeg 0) (Int32.toNatClampNeg 0) (Int32.toNatClampNeg 6))) (v0 + 2) (va_cpy ((wrA h (v0 + 1) (va_cpy (h (v1 + 1)) (h (v0 + 1)) (Int32.toNatClampNeg 0) (Int32.toNatClampNeg 0) (Int32.toNatClampNeg 6))) (v1 + 2)) ((wrA h (v0 + 1) (va_cpy (h (v1 + 1)) (h (v0 + 1)) (Int32.toNatClampNeg 0) (Int32.toNatClampNeg 0) (Int32.toNatClampNeg 6))) (v0 + 2)) (Int32.toNatClampNeg 0) (Int32.toNatClampNeg 0) (Int32.toNatClampNeg 6))) v0 2 ((wrA (wrA h (v0 + 1) (va_cpy (h (v1 + 1)) (h (v0 + 1)) (Int32.toNatClampNeg 0) (Int32.toNatClampNeg 0) (Int32.toNatClampNeg 6))) (v0 + 2) (va_cpy ((wrA h (v0 + 1) (va_cpy (h (v1 + 1)) (h (v0 + 1)) (Int32.toNatClampNeg 0) (Int32.toNatClampNeg 0) (Int32.toNatClampNeg 6))) (v1 + 2)) ((wrA h (v0 + 1) (va_cpy (h (v1 + 1)) (h (v0 + 1)) (Int32.toNatClampNeg 0) (Int32.toNatClampNeg 0) (Int32.toNatClampNeg 6))) (v0 + 2)) (Int32.toNatClampNeg 0) (Int32.toNatClampNeg 0) (Int32.toNatClampNeg 6))) v1 2)) v0 3 ((wr (wrA (wrA h (v0 + 1) (va_cpy (h (v1 + 1)) (h (v0 + 1)) (Int32.toNatClampNeg 0) (Int32.toNatClampNeg 0) (Int32.toNatClampNeg 6))) (v0 + 2) (va_cpy ((wrA h (v0 + 1) (va_cpy (h (v1 + 1)) (h (v0 + 1)) (Int32.toNatClampNeg 0) (Int32.toNatClampNeg 0) (Int32.toNatClampNeg 6))) (v1 + 2)) ((wrA h (v0 + 1) (va_cpy (h (v1 + 1)) (h (v0 + 1)) (Int32.toNatClampNeg 0) (Int32.toNatClampNeg 0) (Int32.toNatClampNeg 6))) (v0 + 2)) (Int32.toNatClampNeg 0) (Int32.toNatClampNeg 0) (Int32.toNatClampNeg 6))) v0 2 ((wrA (wrA h (v0 + 1) (va_cpy (h (v1 + 1)) (h (v0 + 1)) (Int32.toNatClampNeg 0) (Int32.toNatClampNeg 0) (Int32.toNatClampNeg 6))) (v0 + 2) (va_cpy ((wrA h (v0 + 1) (va_cpy (h (v1 + 1)) (h (v0 + 1)) (Int32.toNatClampNeg 0) (Int32.toNatClampNeg 0) (Int32.toNatClampNeg 6))) (v1 + 2)) ((wrA h (v0 + 1) (va_cpy (h (v1 + 1)) (h (v0 + 1)) (Int32.toNatClampNeg 0) (Int32.toNatClampNeg 0) (Int32.toNatClampNeg 6))) (v0 + 2)) (Int32.toNatClampNeg 0) (Int32.toNatClampNeg 0) (Int32.toNatClampNeg 6))) v1 2)) v1 3)) v1 4)) v1 5))))
set_option maxRecDepth 100000 in
theorem r_88_0 {X : GX} {d : Nat} {r : Int32 × Hp} (hd : 1 ≤ d) (hq : RtX X none r.2) {h : Hp} {v0 : Nat} {v1 : Nat} (e : R_88_0 v0 v1 h = some r) : G X d 88 0 [some (.ref v0), some (.ref v1)] [] h := by
  unfold R_88_0 at e
  have g := gd_s e; clear e; obtain ⟨⟨o0, o1, o3, o4, o5, o6⟩, e⟩ := g
  rw [← Option.some.inj e] at hq
  exact k_88_0 o0 o1 (by omega) o3 o4 o5 o6 hq
noncomputable def S_88 (v0 : Nat) (v1 : Nat) (h : Hp) : Option (Int32 × Hp) := R_88_0 v0 v1 h
set_option maxRecDepth 100000 in
theorem t_88 {v0 : Nat} {v1 : Nat} {h : Hp} {r : Int32 × Hp} (e : S_88 v0 v1 h = some r) : CV 1 88 [.ref v0, .ref v1] h (fun g => g = r.2) := by
  refine C.of mo_88 (Nat.le_of_ble_eq_true rfl) (fun X hq => ?_)
  exact r_88_0 (Nat.le_refl _) (hq _ _ ⟨rfl, rfl⟩) e
/-! 87 PlayedTruth$Ahead.fromNow()LPlayedTruth$Moment; -/
noncomputable def R_87_13 (h : Hp) : Option (Nat × Hp) := gd (vp_in 0 5) (some ((35 + 3 * Int32.toNatClampNeg 0), h))
theorem r_87_13 {X : GX} {d : Nat} {r : Nat × Hp} (hd : 2 ≤ d) (hq : RtX X (some (.ref r.1)) r.2) {h : Hp} (e : R_87_13 h = some r) : G X d 87 13 [some (.ref 31)] [] h := by
  unfold R_87_13 at e
  have g := gd_s e; clear e; obtain ⟨b0, e⟩ := g
  rw [← Option.some.inj e] at hq
  exact k_87_13 b0 hq
noncomputable def R_87_0 (h : Hp) : Option (Nat × Hp) := gd (vp_in 0 5 ∧ sh (35 + 3 * Int32.toNatClampNeg 0) = (1, 3)) (bndV (S_88 (35 + 3 * Int32.toNatClampNeg 0) 13 h) (R_87_13))
theorem r_87_0 {X : GX} {d : Nat} {r : Nat × Hp} (hd : 2 ≤ d) (hq : RtX X (some (.ref r.1)) r.2) {h : Hp} (e : R_87_0 h = some r) : G X d 87 0 [some (.ref 31)] [] h := by
  unfold R_87_0 at e
  have g := gd_s e; clear e; obtain ⟨⟨b0, o1⟩, e⟩ := g
  obtain ⟨x, h2, e1, e2⟩ := bndV_s e
  refine k_87_0 b0 o1 (by omega) (t_88 e1) ?_
  rintro _ rfl
  exact r_87_13 hd hq e2
noncomputable def S_87 (h : Hp) : Option (Nat × Hp) := R_87_0 h
set_option maxRecDepth 100000 in
theorem t_87 {h : Hp} {r : Nat × Hp} (e : S_87 h = some r) : CR 2 87 [.ref 31] h (fun x g => x = r.1 ∧ g = r.2) := by
  refine C.of mo_87 (Nat.le_of_ble_eq_true rfl) (fun X hq => ?_)
  exact r_87_0 (Nat.le_refl _) (hq _ _ ⟨_, rfl, rfl, rfl⟩) e
/-! 86 PlayedTruth$Ahead.worthOfRest(I)I -/
noncomputable def R_86_46 (v2 : Nat) (h : Hp) : Option (Int32 × Hp) := gd (sh v2 = (1, 3)) (some (((h v2 4) - (h 13 4)), h))
theorem r_86_46 {X : GX} {d : Nat} {r : Int32 × Hp} (hd : 6 ≤ d) (hq : RtX X (some (.int r.1)) r.2) {h : Hp} {v2 : Nat} (e : R_86_46 v2 h = some r) : G X d 86 46 [some (.ref 31), none, some (.ref v2), none] [] h := by
  unfold R_86_46 at e
  have g := gd_s e; clear e; obtain ⟨o0, e⟩ := g
  rw [← Option.some.inj e] at hq
  exact k_86_46 o0 hq
noncomputable def R_86_39 (rec_7 : Int32 → Nat → Int32 → Hp → Option (Int32 × Hp)) (v1 : Int32) (v2 : Nat) (v3 : Int32) (s0 : Int32) (h : Hp) : Option (Int32 × Hp) := rec_7 v1 v2 (v3 + 1) h
theorem r_86_39 {X : GX} {d : Nat} {r : Int32 × Hp} (hd : 6 ≤ d) (hq : RtX X (some (.int r.1)) r.2) {rec_7 : Int32 → Nat → Int32 → Hp → Option (Int32 × Hp)} (hr_7 : ∀ {v1 : Int32} {v2 : Nat} {v3 : Int32} {h : Hp}, rec_7 v1 v2 v3 h = some r → G X d 86 7 [some (.ref 31), some (.int v1), some (.ref v2), some (.int v3)] [] h) {h : Hp} {v1 : Int32} {v2 : Nat} {v3 : Int32} {s0 : Int32} (e : R_86_39 rec_7 v1 v2 v3 s0 h = some r) : G X d 86 39 [some (.ref 31), some (.int v1), some (.ref v2), some (.int v3)] [.int s0] h := by
  unfold R_86_39 at e
  exact k_86_39 (hr_7 e)
noncomputable def R_86_36 (rec_7 : Int32 → Nat → Int32 → Hp → Option (Int32 × Hp)) (v1 : Int32) (v2 : Nat) (v3 : Int32) (s1 : Nat) (s2 : Nat) (s0 : Int32) (h : Hp) : Option (Int32 × Hp) := gd (sh s2 = (1, 6) ∧ s2 = 1) (bndI (S_81 s1 s0 h) (R_86_39 rec_7 v1 v2 v3))
theorem r_86_36 {X : GX} {d : Nat} {r : Int32 × Hp} (hd : 6 ≤ d) (hq : RtX X (some (.int r.1)) r.2) {rec_7 : Int32 → Nat → Int32 → Hp → Option (Int32 × Hp)} (hr_7 : ∀ {v1 : Int32} {v2 : Nat} {v3 : Int32} {h : Hp}, rec_7 v1 v2 v3 h = some r → G X d 86 7 [some (.ref 31), some (.int v1), some (.ref v2), some (.int v3)] [] h) {h : Hp} {v1 : Int32} {v2 : Nat} {v3 : Int32} {s1 : Nat} {s2 : Nat} {s0 : Int32} (e : R_86_36 rec_7 v1 v2 v3 s1 s2 s0 h = some r) : G X d 86 36 [some (.ref 31), some (.int v1), some (.ref v2), some (.int v3)] [.int s0, .ref s1, .ref s2] h := by
  unfold R_86_36 at e
  have g := gd_s e; clear e; obtain ⟨⟨o0, q0⟩, e⟩ := g
  subst q0
  obtain ⟨x, h2, e1, e2⟩ := bndI_s e
  refine k_86_36 o0 (by omega) (t_81 e1) ?_
  rintro _ _ ⟨rfl, rfl⟩
  exact r_86_39 hd hq hr_7 e2
noncomputable def R_86_23 (rec_7 : Int32 → Nat → Int32 → Hp → Option (Int32 × Hp)) (v1 : Int32) (v2 : Nat) (v3 : Int32) (h : Hp) : Option (Int32 × Hp) := bndI (S_80 v2 h) (R_86_36 rec_7 v1 v2 v3 v2 1)
theorem r_86_23 {X : GX} {d : Nat} {r : Int32 × Hp} (hd : 6 ≤ d) (hq : RtX X (some (.int r.1)) r.2) {rec_7 : Int32 → Nat → Int32 → Hp → Option (Int32 × Hp)} (hr_7 : ∀ {v1 : Int32} {v2 : Nat} {v3 : Int32} {h : Hp}, rec_7 v1 v2 v3 h = some r → G X d 86 7 [some (.ref 31), some (.int v1), some (.ref v2), some (.int v3)] [] h) {h : Hp} {v1 : Int32} {v2 : Nat} {v3 : Int32} (e : R_86_23 rec_7 v1 v2 v3 h = some r) : G X d 86 23 [some (.ref 31), some (.int v1), some (.ref v2), some (.int v3)] [] h := by
  unfold R_86_23 at e
  obtain ⟨x, h2, e1, e2⟩ := bndI_s e
  refine k_86_23 (by omega) (t_80 e1) ?_
  rintro _ _ ⟨rfl, rfl⟩
  exact r_86_36 hd hq hr_7 e2
noncomputable def R_86_20 (rec_7 : Int32 → Nat → Int32 → Hp → Option (Int32 × Hp)) (v1 : Int32) (v2 : Nat) (v3 : Int32) (s0 : Int32) (h : Hp) : Option (Int32 × Hp) := if s0 = 0 then R_86_23 rec_7 v1 v2 v3 h else R_86_46 v2 h
theorem r_86_20 {X : GX} {d : Nat} {r : Int32 × Hp} (hd : 6 ≤ d) (hq : RtX X (some (.int r.1)) r.2) {rec_7 : Int32 → Nat → Int32 → Hp → Option (Int32 × Hp)} (hr_7 : ∀ {v1 : Int32} {v2 : Nat} {v3 : Int32} {h : Hp}, rec_7 v1 v2 v3 h = some r → G X d 86 7 [some (.ref 31), some (.int v1), some (.ref v2), some (.int v3)] [] h) {h : Hp} {v1 : Int32} {v2 : Nat} {v3 : Int32} {s0 : Int32} (e : R_86_20 rec_7 v1 v2 v3 s0 h = some r) : G X d 86 20 [some (.ref 31), some (.int v1), some (.ref v2), some (.int v3)] [.int s0] h := by
  unfold R_86_20 at e
  refine k_86_20 (fun c => ?_) (fun c => ?_)
  · rw [if_neg c] at e; exact r_86_46 hd hq e
  · rw [if_pos c] at e; exact r_86_23 hd hq hr_7 e
noncomputable def R_86_12 (rec_7 : Int32 → Nat → Int32 → Hp → Option (Int32 × Hp)) (v1 : Int32) (v2 : Nat) (v3 : Int32) (h : Hp) : Option (Int32 × Hp) := bndI (S_38 v2 h) (R_86_20 rec_7 v1 v2 v3)
theorem r_86_12 {X : GX} {d : Nat} {r : Int32 × Hp} (hd : 6 ≤ d) (hq : RtX X (some (.int r.1)) r.2) {rec_7 : Int32 → Nat → Int32 → Hp → Option (Int32 × Hp)} (hr_7 : ∀ {v1 : Int32} {v2 : Nat} {v3 : Int32} {h : Hp}, rec_7 v1 v2 v3 h = some r → G X d 86 7 [some (.ref 31), some (.int v1), some (.ref v2), some (.int v3)] [] h) {h : Hp} {v1 : Int32} {v2 : Nat} {v3 : Int32} (e : R_86_12 rec_7 v1 v2 v3 h = some r) : G X d 86 12 [some (.ref 31), some (.int v1), some (.ref v2), some (.int v3)] [] h := by
  unfold R_86_12 at e
  obtain ⟨x, h2, e1, e2⟩ := bndI_s e
  refine k_86_12 (by omega) (t_38 e1) ?_
  rintro _ _ ⟨rfl, rfl⟩
  exact r_86_20 hd hq hr_7 e2
noncomputable def R_86_7 (rec_7 : Int32 → Nat → Int32 → Hp → Option (Int32 × Hp)) (v1 : Int32) (v2 : Nat) (v3 : Int32) (h : Hp) : Option (Int32 × Hp) := if v1 ≤ v3 then R_86_46 v2 h else R_86_12 rec_7 v1 v2 v3 h
theorem r_86_7 {X : GX} {d : Nat} {r : Int32 × Hp} (hd : 6 ≤ d) (hq : RtX X (some (.int r.1)) r.2) {rec_7 : Int32 → Nat → Int32 → Hp → Option (Int32 × Hp)} (hr_7 : ∀ {v1 : Int32} {v2 : Nat} {v3 : Int32} {h : Hp}, rec_7 v1 v2 v3 h = some r → G X d 86 7 [some (.ref 31), some (.int v1), some (.ref v2), some (.int v3)] [] h) {h : Hp} {v1 : Int32} {v2 : Nat} {v3 : Int32} (e : R_86_7 rec_7 v1 v2 v3 h = some r) : G X d 86 7 [some (.ref 31), some (.int v1), some (.ref v2), some (.int v3)] [] h := by
  unfold R_86_7 at e
  refine k_86_7 (fun c => ?_) (fun c => ?_)
  · rw [if_pos c] at e; exact r_86_46 hd hq e
  · rw [if_neg c] at e; exact r_86_12 hd hq hr_7 e
noncomputable def H_86_7 : Nat → Int32 → Nat → Int32 → Hp → Option (Int32 × Hp)
  | 0, _, _, _, _ => none
  | n + 1, v1, v2, v3, h => R_86_7 (H_86_7 n) v1 v2 v3 h
theorem h_86_7 {X : GX} {d : Nat} {r : Int32 × Hp} (hd : 6 ≤ d) (hq : RtX X (some (.int r.1)) r.2) {n : Nat} {h : Hp} {v1 : Int32} {v2 : Nat} {v3 : Int32} (e : H_86_7 n v1 v2 v3 h = some r) : G X d 86 7 [some (.ref 31), some (.int v1), some (.ref v2), some (.int v3)] [] h := by
  induction n generalizing v1 v2 v3 h with
  | zero => cases e
  | succ n ih => exact r_86_7 hd hq (fun e => ih e) e
noncomputable def R_86_4 (v1 : Int32) (s0 : Nat) (h : Hp) : Option (Int32 × Hp) := H_86_7 fuL v1 s0 0 h
theorem r_86_4 {X : GX} {d : Nat} {r : Int32 × Hp} (hd : 6 ≤ d) (hq : RtX X (some (.int r.1)) r.2) {h : Hp} {v1 : Int32} {s0 : Nat} (e : R_86_4 v1 s0 h = some r) : G X d 86 4 [some (.ref 31), some (.int v1), none, none] [.ref s0] h := by
  unfold R_86_4 at e
  exact k_86_4 (h_86_7 hd hq e)
noncomputable def R_86_0 (v1 : Int32) (h : Hp) : Option (Int32 × Hp) := bndR (S_87 h) (R_86_4 v1)
theorem r_86_0 {X : GX} {d : Nat} {r : Int32 × Hp} (hd : 6 ≤ d) (hq : RtX X (some (.int r.1)) r.2) {h : Hp} {v1 : Int32} (e : R_86_0 v1 h = some r) : G X d 86 0 [some (.ref 31), some (.int v1), none, none] [] h := by
  unfold R_86_0 at e
  obtain ⟨x, h2, e1, e2⟩ := bndR_s e
  refine k_86_0 (by omega) (t_87 e1) ?_
  rintro _ _ ⟨rfl, rfl⟩
  exact r_86_4 hd hq e2
noncomputable def S_86 (v1 : Int32) (h : Hp) : Option (Int32 × Hp) := R_86_0 v1 h
set_option maxRecDepth 100000 in
theorem t_86 {v1 : Int32} {h : Hp} {r : Int32 × Hp} (e : S_86 v1 h = some r) : CI 6 86 [.ref 31, .int v1] h (fun x g => x = r.1 ∧ g = r.2) := by
  refine C.of mo_86 (Nat.le_of_ble_eq_true rfl) (fun X hq => ?_)
  exact r_86_0 (Nat.le_refl _) (hq _ _ ⟨_, rfl, rfl, rfl⟩) e
/-! 85 PlayedTruth.on(I)I -/
noncomputable def R_85_21 (h : Hp) : Option (Int32 × Hp) := some (((-1)), h)
theorem r_85_21 {X : GX} {d : Nat} {r : Int32 × Hp} (hd : 7 ≤ d) (hq : RtX X (some (.int r.1)) r.2) {h : Hp} (e : R_85_21 h = some r) : G X d 85 21 [none, none] [] h := by
  unfold R_85_21 at e
  rw [← Option.some.inj e] at hq
  exact k_85_21 hq
noncomputable def R_85_18 (s0 : Int32) (h : Hp) : Option (Int32 × Hp) := some (s0, h)
theorem r_85_18 {X : GX} {d : Nat} {r : Int32 × Hp} (hd : 7 ≤ d) (hq : RtX X (some (.int r.1)) r.2) {h : Hp} {s0 : Int32} (e : R_85_18 s0 h = some r) : G X d 85 18 [none, none] [.int s0] h := by
  unfold R_85_18 at e
  rw [← Option.some.inj e] at hq
  exact k_85_18 hq
noncomputable def R_85_10 (v1 : Int32) (h : Hp) : Option (Int32 × Hp) := bndI (S_86 v1 h) (R_85_18)
theorem r_85_10 {X : GX} {d : Nat} {r : Int32 × Hp} (hd : 7 ≤ d) (hq : RtX X (some (.int r.1)) r.2) {h : Hp} {v1 : Int32} (e : R_85_10 v1 h = some r) : G X d 85 10 [some (.ref 0), some (.int v1)] [] h := by
  unfold R_85_10 at e
  obtain ⟨x, h2, e1, e2⟩ := bndI_s e
  refine k_85_10 (by omega) (t_86 e1) ?_
  rintro _ _ ⟨rfl, rfl⟩
  exact r_85_18 hd hq e2
noncomputable def R_85_7 (v1 : Int32) (s0 : Int32) (h : Hp) : Option (Int32 × Hp) := if s0 = 0 then R_85_21 h else R_85_10 v1 h
theorem r_85_7 {X : GX} {d : Nat} {r : Int32 × Hp} (hd : 7 ≤ d) (hq : RtX X (some (.int r.1)) r.2) {h : Hp} {v1 : Int32} {s0 : Int32} (e : R_85_7 v1 s0 h = some r) : G X d 85 7 [some (.ref 0), some (.int v1)] [.int s0] h := by
  unfold R_85_7 at e
  refine k_85_7 (fun c => ?_) (fun c => ?_)
  · rw [if_pos c] at e; exact r_85_21 hd hq e
  · rw [if_neg c] at e; exact r_85_10 hd hq e
noncomputable def R_85_0 (v1 : Int32) (h : Hp) : Option (Int32 × Hp) := bndI (S_11 v1 0 16 h) (R_85_7 v1)
theorem r_85_0 {X : GX} {d : Nat} {r : Int32 × Hp} (hd : 7 ≤ d) (hq : RtX X (some (.int r.1)) r.2) {h : Hp} {v1 : Int32} (e : R_85_0 v1 h = some r) : G X d 85 0 [some (.ref 0), some (.int v1)] [] h := by
  unfold R_85_0 at e
  obtain ⟨x, h2, e1, e2⟩ := bndI_s e
  refine k_85_0 (by omega) (t_11 e1) ?_
  rintro _ _ ⟨rfl, rfl⟩
  exact r_85_7 hd hq e2
noncomputable def S_85 (v1 : Int32) (h : Hp) : Option (Int32 × Hp) := R_85_0 v1 h
set_option maxRecDepth 100000 in
theorem t_85 {v1 : Int32} {h : Hp} {r : Int32 × Hp} (e : S_85 v1 h = some r) : CI 7 85 [.ref 0, .int v1] h (fun x g => x = r.1 ∧ g = r.2) := by
  refine C.of mo_85 (Nat.le_of_ble_eq_true rfl) (fun X hq => ?_)
  exact r_85_0 (Nat.le_refl _) (hq _ _ ⟨_, rfl, rfl, rfl⟩) e
/-! 90 PlayedTruth$Ahead.settlingNight(I)I -/
noncomputable def R_90_73 (h : Hp) : Option (Int32 × Hp) := some (((-3)), h)
theorem r_90_73 {X : GX} {d : Nat} {r : Int32 × Hp} (hd : 6 ≤ d) (hq : RtX X (some (.int r.1)) r.2) {h : Hp} (e : R_90_73 h = some r) : G X d 90 73 [none, none, none, none] [] h := by
  unfold R_90_73 at e
  rw [← Option.some.inj e] at hq
  exact k_90_73 hq
noncomputable def R_90_67 (rec_18 : Int32 → Nat → Int32 → Hp → Option (Int32 × Hp)) (v1 : Int32) (v2 : Nat) (v3 : Int32) (h : Hp) : Option (Int32 × Hp) := rec_18 v1 v2 (v3 + 1) h
theorem r_90_67 {X : GX} {d : Nat} {r : Int32 × Hp} (hd : 6 ≤ d) (hq : RtX X (some (.int r.1)) r.2) {rec_18 : Int32 → Nat → Int32 → Hp → Option (Int32 × Hp)} (hr_18 : ∀ {v1 : Int32} {v2 : Nat} {v3 : Int32} {h : Hp}, rec_18 v1 v2 v3 h = some r → G X d 90 18 [some (.ref 31), some (.int v1), some (.ref v2), some (.int v3)] [] h) {h : Hp} {v1 : Int32} {v2 : Nat} {v3 : Int32} (e : R_90_67 rec_18 v1 v2 v3 h = some r) : G X d 90 67 [some (.ref 31), some (.int v1), some (.ref v2), some (.int v3)] [] h := by
  unfold R_90_67 at e
  exact k_90_67 (hr_18 e)
noncomputable def R_90_60 (v2 : Nat) (h : Hp) : Option (Int32 × Hp) := gd (sh v2 = (1, 3)) (some (((h v2 3) - 1), h))
theorem r_90_60 {X : GX} {d : Nat} {r : Int32 × Hp} (hd : 6 ≤ d) (hq : RtX X (some (.int r.1)) r.2) {h : Hp} {v2 : Nat} (e : R_90_60 v2 h = some r) : G X d 90 60 [none, none, some (.ref v2), none] [] h := by
  unfold R_90_60 at e
  have g := gd_s e; clear e; obtain ⟨o0, e⟩ := g
  rw [← Option.some.inj e] at hq
  exact k_90_60 o0 hq
noncomputable def R_90_57 (rec_18 : Int32 → Nat → Int32 → Hp → Option (Int32 × Hp)) (v1 : Int32) (v2 : Nat) (v3 : Int32) (s0 : Int32) (h : Hp) : Option (Int32 × Hp) := if s0 = 0 then R_90_67 rec_18 v1 v2 v3 h else R_90_60 v2 h
theorem r_90_57 {X : GX} {d : Nat} {r : Int32 × Hp} (hd : 6 ≤ d) (hq : RtX X (some (.int r.1)) r.2) {rec_18 : Int32 → Nat → Int32 → Hp → Option (Int32 × Hp)} (hr_18 : ∀ {v1 : Int32} {v2 : Nat} {v3 : Int32} {h : Hp}, rec_18 v1 v2 v3 h = some r → G X d 90 18 [some (.ref 31), some (.int v1), some (.ref v2), some (.int v3)] [] h) {h : Hp} {v1 : Int32} {v2 : Nat} {v3 : Int32} {s0 : Int32} (e : R_90_57 rec_18 v1 v2 v3 s0 h = some r) : G X d 90 57 [some (.ref 31), some (.int v1), some (.ref v2), some (.int v3)] [.int s0] h := by
  unfold R_90_57 at e
  refine k_90_57 (fun c => ?_) (fun c => ?_)
  · rw [if_pos c] at e; exact r_90_67 hd hq hr_18 e
  · rw [if_neg c] at e; exact r_90_60 hd hq e
noncomputable def R_90_51 (rec_18 : Int32 → Nat → Int32 → Hp → Option (Int32 × Hp)) (v1 : Int32) (v2 : Nat) (v3 : Int32) (s0 : Int32) (h : Hp) : Option (Int32 × Hp) := gd (sh v2 = (1, 3)) (bndI (S_15 v2 v1 h) (R_90_57 rec_18 v1 v2 v3))
theorem r_90_51 {X : GX} {d : Nat} {r : Int32 × Hp} (hd : 6 ≤ d) (hq : RtX X (some (.int r.1)) r.2) {rec_18 : Int32 → Nat → Int32 → Hp → Option (Int32 × Hp)} (hr_18 : ∀ {v1 : Int32} {v2 : Nat} {v3 : Int32} {h : Hp}, rec_18 v1 v2 v3 h = some r → G X d 90 18 [some (.ref 31), some (.int v1), some (.ref v2), some (.int v3)] [] h) {h : Hp} {v1 : Int32} {v2 : Nat} {v3 : Int32} {s0 : Int32} (e : R_90_51 rec_18 v1 v2 v3 s0 h = some r) : G X d 90 51 [some (.ref 31), some (.int v1), some (.ref v2), some (.int v3)] [.int s0] h := by
  unfold R_90_51 at e
  have g := gd_s e; clear e; obtain ⟨o0, e⟩ := g
  obtain ⟨x, h2, e1, e2⟩ := bndI_s e
  refine k_90_51 o0 (by omega) (t_15 e1) ?_
  rintro _ _ ⟨rfl, rfl⟩
  exact r_90_57 hd hq hr_18 e2
noncomputable def R_90_48 (rec_18 : Int32 → Nat → Int32 → Hp → Option (Int32 × Hp)) (v1 : Int32) (v2 : Nat) (v3 : Int32) (s1 : Nat) (s2 : Nat) (s0 : Int32) (h : Hp) : Option (Int32 × Hp) := gd (sh s2 = (1, 6) ∧ s2 = 1) (bndI (S_81 s1 s0 h) (R_90_51 rec_18 v1 v2 v3))
theorem r_90_48 {X : GX} {d : Nat} {r : Int32 × Hp} (hd : 6 ≤ d) (hq : RtX X (some (.int r.1)) r.2) {rec_18 : Int32 → Nat → Int32 → Hp → Option (Int32 × Hp)} (hr_18 : ∀ {v1 : Int32} {v2 : Nat} {v3 : Int32} {h : Hp}, rec_18 v1 v2 v3 h = some r → G X d 90 18 [some (.ref 31), some (.int v1), some (.ref v2), some (.int v3)] [] h) {h : Hp} {v1 : Int32} {v2 : Nat} {v3 : Int32} {s1 : Nat} {s2 : Nat} {s0 : Int32} (e : R_90_48 rec_18 v1 v2 v3 s1 s2 s0 h = some r) : G X d 90 48 [some (.ref 31), some (.int v1), some (.ref v2), some (.int v3)] [.int s0, .ref s1, .ref s2] h := by
  unfold R_90_48 at e
  have g := gd_s e; clear e; obtain ⟨⟨o0, q0⟩, e⟩ := g
  subst q0
  obtain ⟨x, h2, e1, e2⟩ := bndI_s e
  refine k_90_48 o0 (by omega) (t_81 e1) ?_
  rintro _ _ ⟨rfl, rfl⟩
  exact r_90_51 hd hq hr_18 e2
noncomputable def R_90_35 (rec_18 : Int32 → Nat → Int32 → Hp → Option (Int32 × Hp)) (v1 : Int32) (v2 : Nat) (v3 : Int32) (h : Hp) : Option (Int32 × Hp) := bndI (S_80 v2 h) (R_90_48 rec_18 v1 v2 v3 v2 1)
theorem r_90_35 {X : GX} {d : Nat} {r : Int32 × Hp} (hd : 6 ≤ d) (hq : RtX X (some (.int r.1)) r.2) {rec_18 : Int32 → Nat → Int32 → Hp → Option (Int32 × Hp)} (hr_18 : ∀ {v1 : Int32} {v2 : Nat} {v3 : Int32} {h : Hp}, rec_18 v1 v2 v3 h = some r → G X d 90 18 [some (.ref 31), some (.int v1), some (.ref v2), some (.int v3)] [] h) {h : Hp} {v1 : Int32} {v2 : Nat} {v3 : Int32} (e : R_90_35 rec_18 v1 v2 v3 h = some r) : G X d 90 35 [some (.ref 31), some (.int v1), some (.ref v2), some (.int v3)] [] h := by
  unfold R_90_35 at e
  obtain ⟨x, h2, e1, e2⟩ := bndI_s e
  refine k_90_35 (by omega) (t_80 e1) ?_
  rintro _ _ ⟨rfl, rfl⟩
  exact r_90_48 hd hq hr_18 e2
noncomputable def R_90_32 (rec_18 : Int32 → Nat → Int32 → Hp → Option (Int32 × Hp)) (v1 : Int32) (v2 : Nat) (v3 : Int32) (s0 : Int32) (h : Hp) : Option (Int32 × Hp) := if s0 = 0 then R_90_35 rec_18 v1 v2 v3 h else R_90_73 h
theorem r_90_32 {X : GX} {d : Nat} {r : Int32 × Hp} (hd : 6 ≤ d) (hq : RtX X (some (.int r.1)) r.2) {rec_18 : Int32 → Nat → Int32 → Hp → Option (Int32 × Hp)} (hr_18 : ∀ {v1 : Int32} {v2 : Nat} {v3 : Int32} {h : Hp}, rec_18 v1 v2 v3 h = some r → G X d 90 18 [some (.ref 31), some (.int v1), some (.ref v2), some (.int v3)] [] h) {h : Hp} {v1 : Int32} {v2 : Nat} {v3 : Int32} {s0 : Int32} (e : R_90_32 rec_18 v1 v2 v3 s0 h = some r) : G X d 90 32 [some (.ref 31), some (.int v1), some (.ref v2), some (.int v3)] [.int s0] h := by
  unfold R_90_32 at e
  refine k_90_32 (fun c => ?_) (fun c => ?_)
  · rw [if_neg c] at e; exact r_90_73 hd hq e
  · rw [if_pos c] at e; exact r_90_35 hd hq hr_18 e
noncomputable def R_90_24 (rec_18 : Int32 → Nat → Int32 → Hp → Option (Int32 × Hp)) (v1 : Int32) (v2 : Nat) (v3 : Int32) (h : Hp) : Option (Int32 × Hp) := bndI (S_38 v2 h) (R_90_32 rec_18 v1 v2 v3)
theorem r_90_24 {X : GX} {d : Nat} {r : Int32 × Hp} (hd : 6 ≤ d) (hq : RtX X (some (.int r.1)) r.2) {rec_18 : Int32 → Nat → Int32 → Hp → Option (Int32 × Hp)} (hr_18 : ∀ {v1 : Int32} {v2 : Nat} {v3 : Int32} {h : Hp}, rec_18 v1 v2 v3 h = some r → G X d 90 18 [some (.ref 31), some (.int v1), some (.ref v2), some (.int v3)] [] h) {h : Hp} {v1 : Int32} {v2 : Nat} {v3 : Int32} (e : R_90_24 rec_18 v1 v2 v3 h = some r) : G X d 90 24 [some (.ref 31), some (.int v1), some (.ref v2), some (.int v3)] [] h := by
  unfold R_90_24 at e
  obtain ⟨x, h2, e1, e2⟩ := bndI_s e
  refine k_90_24 (by omega) (t_38 e1) ?_
  rintro _ _ ⟨rfl, rfl⟩
  exact r_90_32 hd hq hr_18 e2
noncomputable def R_90_18 (rec_18 : Int32 → Nat → Int32 → Hp → Option (Int32 × Hp)) (v1 : Int32) (v2 : Nat) (v3 : Int32) (h : Hp) : Option (Int32 × Hp) := if 16 ≤ v3 then R_90_73 h else R_90_24 rec_18 v1 v2 v3 h
theorem r_90_18 {X : GX} {d : Nat} {r : Int32 × Hp} (hd : 6 ≤ d) (hq : RtX X (some (.int r.1)) r.2) {rec_18 : Int32 → Nat → Int32 → Hp → Option (Int32 × Hp)} (hr_18 : ∀ {v1 : Int32} {v2 : Nat} {v3 : Int32} {h : Hp}, rec_18 v1 v2 v3 h = some r → G X d 90 18 [some (.ref 31), some (.int v1), some (.ref v2), some (.int v3)] [] h) {h : Hp} {v1 : Int32} {v2 : Nat} {v3 : Int32} (e : R_90_18 rec_18 v1 v2 v3 h = some r) : G X d 90 18 [some (.ref 31), some (.int v1), some (.ref v2), some (.int v3)] [] h := by
  unfold R_90_18 at e
  refine k_90_18 (fun c => ?_) (fun c => ?_)
  · rw [if_pos c] at e; exact r_90_73 hd hq e
  · rw [if_neg c] at e; exact r_90_24 hd hq hr_18 e
noncomputable def H_90_18 : Nat → Int32 → Nat → Int32 → Hp → Option (Int32 × Hp)
  | 0, _, _, _, _ => none
  | n + 1, v1, v2, v3, h => R_90_18 (H_90_18 n) v1 v2 v3 h
theorem h_90_18 {X : GX} {d : Nat} {r : Int32 × Hp} (hd : 6 ≤ d) (hq : RtX X (some (.int r.1)) r.2) {n : Nat} {h : Hp} {v1 : Int32} {v2 : Nat} {v3 : Int32} (e : H_90_18 n v1 v2 v3 h = some r) : G X d 90 18 [some (.ref 31), some (.int v1), some (.ref v2), some (.int v3)] [] h := by
  induction n generalizing v1 v2 v3 h with
  | zero => cases e
  | succ n ih => exact r_90_18 hd hq (fun e => ih e) e
noncomputable def R_90_16 (v1 : Int32) (v2 : Nat) (h : Hp) : Option (Int32 × Hp) := H_90_18 fuL v1 v2 0 h
theorem r_90_16 {X : GX} {d : Nat} {r : Int32 × Hp} (hd : 6 ≤ d) (hq : RtX X (some (.int r.1)) r.2) {h : Hp} {v1 : Int32} {v2 : Nat} (e : R_90_16 v1 v2 h = some r) : G X d 90 16 [some (.ref 31), some (.int v1), some (.ref v2), none] [] h := by
  unfold R_90_16 at e
  exact k_90_16 (h_90_18 hd hq e)
noncomputable def R_90_13 (h : Hp) : Option (Int32 × Hp) := some (((-3)), h)
theorem r_90_13 {X : GX} {d : Nat} {r : Int32 × Hp} (hd : 6 ≤ d) (hq : RtX X (some (.int r.1)) r.2) {h : Hp} (e : R_90_13 h = some r) : G X d 90 13 [none, none, none, none] [] h := by
  unfold R_90_13 at e
  rw [← Option.some.inj e] at hq
  exact k_90_13 hq
noncomputable def R_90_10 (v1 : Int32) (v2 : Nat) (s0 : Int32) (h : Hp) : Option (Int32 × Hp) := if s0 = 0 then R_90_16 v1 v2 h else R_90_13 h
theorem r_90_10 {X : GX} {d : Nat} {r : Int32 × Hp} (hd : 6 ≤ d) (hq : RtX X (some (.int r.1)) r.2) {h : Hp} {v1 : Int32} {v2 : Nat} {s0 : Int32} (e : R_90_10 v1 v2 s0 h = some r) : G X d 90 10 [some (.ref 31), some (.int v1), some (.ref v2), none] [.int s0] h := by
  unfold R_90_10 at e
  refine k_90_10 (fun c => ?_) (fun c => ?_)
  · rw [if_pos c] at e; exact r_90_16 hd hq e
  · rw [if_neg c] at e; exact r_90_13 hd hq e
noncomputable def R_90_4 (v1 : Int32) (s0 : Nat) (h : Hp) : Option (Int32 × Hp) := gd (sh s0 = (1, 3)) (bndI (S_15 s0 v1 h) (R_90_10 v1 s0))
theorem r_90_4 {X : GX} {d : Nat} {r : Int32 × Hp} (hd : 6 ≤ d) (hq : RtX X (some (.int r.1)) r.2) {h : Hp} {v1 : Int32} {s0 : Nat} (e : R_90_4 v1 s0 h = some r) : G X d 90 4 [some (.ref 31), some (.int v1), none, none] [.ref s0] h := by
  unfold R_90_4 at e
  have g := gd_s e; clear e; obtain ⟨o0, e⟩ := g
  obtain ⟨x, h2, e1, e2⟩ := bndI_s e
  refine k_90_4 o0 (by omega) (t_15 e1) ?_
  rintro _ _ ⟨rfl, rfl⟩
  exact r_90_10 hd hq e2
noncomputable def R_90_0 (v1 : Int32) (h : Hp) : Option (Int32 × Hp) := bndR (S_87 h) (R_90_4 v1)
theorem r_90_0 {X : GX} {d : Nat} {r : Int32 × Hp} (hd : 6 ≤ d) (hq : RtX X (some (.int r.1)) r.2) {h : Hp} {v1 : Int32} (e : R_90_0 v1 h = some r) : G X d 90 0 [some (.ref 31), some (.int v1), none, none] [] h := by
  unfold R_90_0 at e
  obtain ⟨x, h2, e1, e2⟩ := bndR_s e
  refine k_90_0 (by omega) (t_87 e1) ?_
  rintro _ _ ⟨rfl, rfl⟩
  exact r_90_4 hd hq e2
noncomputable def S_90 (v1 : Int32) (h : Hp) : Option (Int32 × Hp) := R_90_0 v1 h
set_option maxRecDepth 100000 in
theorem t_90 {v1 : Int32} {h : Hp} {r : Int32 × Hp} (e : S_90 v1 h = some r) : CI 6 90 [.ref 31, .int v1] h (fun x g => x = r.1 ∧ g = r.2) := by
  refine C.of mo_90 (Nat.le_of_ble_eq_true rfl) (fun X hq => ?_)
  exact r_90_0 (Nat.le_refl _) (hq _ _ ⟨_, rfl, rfl, rfl⟩) e
/-! 89 PlayedTruth.when(I)I -/
noncomputable def R_89_19 (h : Hp) : Option (Int32 × Hp) := some (((-1)), h)
theorem r_89_19 {X : GX} {d : Nat} {r : Int32 × Hp} (hd : 7 ≤ d) (hq : RtX X (some (.int r.1)) r.2) {h : Hp} (e : R_89_19 h = some r) : G X d 89 19 [none, none] [] h := by
  unfold R_89_19 at e
  rw [← Option.some.inj e] at hq
  exact k_89_19 hq
noncomputable def R_89_16 (s0 : Int32) (h : Hp) : Option (Int32 × Hp) := some (s0, h)
theorem r_89_16 {X : GX} {d : Nat} {r : Int32 × Hp} (hd : 7 ≤ d) (hq : RtX X (some (.int r.1)) r.2) {h : Hp} {s0 : Int32} (e : R_89_16 s0 h = some r) : G X d 89 16 [none, none] [.int s0] h := by
  unfold R_89_16 at e
  rw [← Option.some.inj e] at hq
  exact k_89_16 hq
noncomputable def R_89_8 (v1 : Int32) (h : Hp) : Option (Int32 × Hp) := bndI (S_90 v1 h) (R_89_16)
theorem r_89_8 {X : GX} {d : Nat} {r : Int32 × Hp} (hd : 7 ≤ d) (hq : RtX X (some (.int r.1)) r.2) {h : Hp} {v1 : Int32} (e : R_89_8 v1 h = some r) : G X d 89 8 [some (.ref 0), some (.int v1)] [] h := by
  unfold R_89_8 at e
  obtain ⟨x, h2, e1, e2⟩ := bndI_s e
  refine k_89_8 (by omega) (t_90 e1) ?_
  rintro _ _ ⟨rfl, rfl⟩
  exact r_89_16 hd hq e2
noncomputable def R_89_5 (v1 : Int32) (s0 : Int32) (h : Hp) : Option (Int32 × Hp) := if s0 = 0 then R_89_19 h else R_89_8 v1 h
theorem r_89_5 {X : GX} {d : Nat} {r : Int32 × Hp} (hd : 7 ≤ d) (hq : RtX X (some (.int r.1)) r.2) {h : Hp} {v1 : Int32} {s0 : Int32} (e : R_89_5 v1 s0 h = some r) : G X d 89 5 [some (.ref 0), some (.int v1)] [.int s0] h := by
  unfold R_89_5 at e
  refine k_89_5 (fun c => ?_) (fun c => ?_)
  · rw [if_pos c] at e; exact r_89_19 hd hq e
  · rw [if_neg c] at e; exact r_89_8 hd hq e
noncomputable def R_89_0 (v1 : Int32) (h : Hp) : Option (Int32 × Hp) := bndI (S_14 v1 h) (R_89_5 v1)
theorem r_89_0 {X : GX} {d : Nat} {r : Int32 × Hp} (hd : 7 ≤ d) (hq : RtX X (some (.int r.1)) r.2) {h : Hp} {v1 : Int32} (e : R_89_0 v1 h = some r) : G X d 89 0 [some (.ref 0), some (.int v1)] [] h := by
  unfold R_89_0 at e
  obtain ⟨x, h2, e1, e2⟩ := bndI_s e
  refine k_89_0 (by omega) (t_14 e1) ?_
  rintro _ _ ⟨rfl, rfl⟩
  exact r_89_5 hd hq e2
noncomputable def S_89 (v1 : Int32) (h : Hp) : Option (Int32 × Hp) := R_89_0 v1 h
set_option maxRecDepth 100000 in
theorem t_89 {v1 : Int32} {h : Hp} {r : Int32 × Hp} (e : S_89 v1 h = some r) : CI 7 89 [.ref 0, .int v1] h (fun x g => x = r.1 ∧ g = r.2) := by
  refine C.of mo_89 (Nat.le_of_ble_eq_true rfl) (fun X hq => ?_)
  exact r_89_0 (Nat.le_refl _) (hq _ _ ⟨_, rfl, rfl, rfl⟩) e
