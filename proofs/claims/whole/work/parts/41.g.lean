/-! part 41.g: by program (wip/whole/sem.py) -/
/-! 225 PlayedTruthModel.actOfRest()I -/
noncomputable def R_225_30 (h : Hp) : Option (Int32 × Hp) := some (0, h)
theorem r_225_30 {X : GX} {d : Nat} {r : Int32 × Hp} (hd : 7 ≤ d) (hq : RtX X (some (.int r.1)) r.2) {h : Hp} (e : R_225_30 h = some r) : G X d 225 30 [none, none] [] h := by
  unfold R_225_30 at e
  rw [← Option.some.inj e] at hq
  exact k_225_30 hq
noncomputable def R_225_24 (rec_2 : Int32 → Hp → Option (Int32 × Hp)) (v1 : Int32) (h : Hp) : Option (Int32 × Hp) := rec_2 (v1 + 1) h
theorem r_225_24 {X : GX} {d : Nat} {r : Int32 × Hp} (hd : 7 ≤ d) (hq : RtX X (some (.int r.1)) r.2) {rec_2 : Int32 → Hp → Option (Int32 × Hp)} (hr_2 : ∀ {v1 : Int32} {h : Hp}, rec_2 v1 h = some r → G X d 225 2 [some (.ref 84), some (.int v1)] [] h) {h : Hp} {v1 : Int32} (e : R_225_24 rec_2 v1 h = some r) : G X d 225 24 [some (.ref 84), some (.int v1)] [] h := by
  unfold R_225_24 at e
  exact k_225_24 (hr_2 e)
noncomputable def R_225_20 (v1 : Int32) (h : Hp) : Option (Int32 × Hp) := some ((v1 + 1), h)
theorem r_225_20 {X : GX} {d : Nat} {r : Int32 × Hp} (hd : 7 ≤ d) (hq : RtX X (some (.int r.1)) r.2) {h : Hp} {v1 : Int32} (e : R_225_20 v1 h = some r) : G X d 225 20 [none, some (.int v1)] [] h := by
  unfold R_225_20 at e
  rw [← Option.some.inj e] at hq
  exact k_225_20 hq
noncomputable def R_225_17 (rec_2 : Int32 → Hp → Option (Int32 × Hp)) (v1 : Int32) (s0 : Int32) (h : Hp) : Option (Int32 × Hp) := if s0 = 0 then R_225_24 rec_2 v1 h else R_225_20 v1 h
theorem r_225_17 {X : GX} {d : Nat} {r : Int32 × Hp} (hd : 7 ≤ d) (hq : RtX X (some (.int r.1)) r.2) {rec_2 : Int32 → Hp → Option (Int32 × Hp)} (hr_2 : ∀ {v1 : Int32} {h : Hp}, rec_2 v1 h = some r → G X d 225 2 [some (.ref 84), some (.int v1)] [] h) {h : Hp} {v1 : Int32} {s0 : Int32} (e : R_225_17 rec_2 v1 s0 h = some r) : G X d 225 17 [some (.ref 84), some (.int v1)] [.int s0] h := by
  unfold R_225_17 at e
  refine k_225_17 (fun c => ?_) (fun c => ?_)
  · rw [if_pos c] at e; exact r_225_24 hd hq hr_2 e
  · rw [if_neg c] at e; exact r_225_20 hd hq e
noncomputable def R_225_12 (rec_2 : Int32 → Hp → Option (Int32 × Hp)) (v1 : Int32) (h : Hp) : Option (Int32 × Hp) := bndI (S_190 v1 h) (R_225_17 rec_2 v1)
theorem r_225_12 {X : GX} {d : Nat} {r : Int32 × Hp} (hd : 7 ≤ d) (hq : RtX X (some (.int r.1)) r.2) {rec_2 : Int32 → Hp → Option (Int32 × Hp)} (hr_2 : ∀ {v1 : Int32} {h : Hp}, rec_2 v1 h = some r → G X d 225 2 [some (.ref 84), some (.int v1)] [] h) {h : Hp} {v1 : Int32} (e : R_225_12 rec_2 v1 h = some r) : G X d 225 12 [some (.ref 84), some (.int v1)] [] h := by
  unfold R_225_12 at e
  obtain ⟨x, h2, e1, e2⟩ := bndI_s e
  refine k_225_12 (by omega) (t_190 e1) ?_
  rintro _ _ ⟨rfl, rfl⟩
  exact r_225_17 hd hq hr_2 e2
noncomputable def R_225_2 (rec_2 : Int32 → Hp → Option (Int32 × Hp)) (v1 : Int32) (h : Hp) : Option (Int32 × Hp) := gd (IA 85 0) (if (h 85 (Int32.toNatClampNeg 0)) ≤ v1 then R_225_30 h else R_225_12 rec_2 v1 h)
theorem r_225_2 {X : GX} {d : Nat} {r : Int32 × Hp} (hd : 7 ≤ d) (hq : RtX X (some (.int r.1)) r.2) {rec_2 : Int32 → Hp → Option (Int32 × Hp)} (hr_2 : ∀ {v1 : Int32} {h : Hp}, rec_2 v1 h = some r → G X d 225 2 [some (.ref 84), some (.int v1)] [] h) {h : Hp} {v1 : Int32} (e : R_225_2 rec_2 v1 h = some r) : G X d 225 2 [some (.ref 84), some (.int v1)] [] h := by
  unfold R_225_2 at e
  have g := gd_s e; clear e; obtain ⟨b0, e⟩ := g
  refine k_225_2 b0 (fun c => ?_) (fun c => ?_)
  · rw [if_pos c] at e; exact r_225_30 hd hq e
  · rw [if_neg c] at e; exact r_225_12 hd hq hr_2 e
noncomputable def H_225_2 : Nat → Int32 → Hp → Option (Int32 × Hp)
  | 0, _, _ => none
  | n + 1, v1, h => R_225_2 (H_225_2 n) v1 h
theorem h_225_2 {X : GX} {d : Nat} {r : Int32 × Hp} (hd : 7 ≤ d) (hq : RtX X (some (.int r.1)) r.2) {n : Nat} {h : Hp} {v1 : Int32} (e : H_225_2 n v1 h = some r) : G X d 225 2 [some (.ref 84), some (.int v1)] [] h := by
  induction n generalizing v1 h with
  | zero => cases e
  | succ n ih => exact r_225_2 hd hq (fun e => ih e) e
noncomputable def R_225_0 (h : Hp) : Option (Int32 × Hp) := H_225_2 fuL 0 h
theorem r_225_0 {X : GX} {d : Nat} {r : Int32 × Hp} (hd : 7 ≤ d) (hq : RtX X (some (.int r.1)) r.2) {h : Hp} (e : R_225_0 h = some r) : G X d 225 0 [some (.ref 84), none] [] h := by
  unfold R_225_0 at e
  exact k_225_0 (h_225_2 hd hq e)
noncomputable def S_225 (h : Hp) : Option (Int32 × Hp) := R_225_0 h
set_option maxRecDepth 100000 in
theorem t_225 {h : Hp} {r : Int32 × Hp} (e : S_225 h = some r) : CI 7 225 [.ref 84] h (fun x g => x = r.1 ∧ g = r.2) := by
  refine C.of mo_225 (Nat.le_of_ble_eq_true rfl) (fun X hq => ?_)
  exact r_225_0 (Nat.le_refl _) (hq _ _ ⟨_, rfl, rfl, rfl⟩) e
/-! 227 PlayedTruthModel.does(I)I -/
noncomputable def R_227_121 (h : Hp) : Option (Int32 × Hp) := some (0, h)
theorem r_227_121 {X : GX} {d : Nat} {r : Int32 × Hp} (hd : 6 ≤ d) (hq : RtX X (some (.int r.1)) r.2) {h : Hp} (e : R_227_121 h = some r) : G X d 227 121 [none, none, none, none] [] h := by
  unfold R_227_121 at e
  rw [← Option.some.inj e] at hq
  exact k_227_121 hq
noncomputable def R_227_117 (s1 : Int32) (s0 : Int32) (h : Hp) : Option (Int32 × Hp) := some ((s1 * (s0 - s0 / 4 * 4)), h)
theorem r_227_117 {X : GX} {d : Nat} {r : Int32 × Hp} (hd : 6 ≤ d) (hq : RtX X (some (.int r.1)) r.2) {h : Hp} {s1 : Int32} {s0 : Int32} (e : R_227_117 s1 s0 h = some r) : G X d 227 117 [none, none, none, none] [.int s0, .int s1] h := by
  unfold R_227_117 at e
  rw [← Option.some.inj e] at hq
  exact k_227_117 hq
noncomputable def R_227_106 (h : Hp) : Option (Int32 × Hp) := gd (IA 85 1) (bndI (S_184 (h 85 (Int32.toNatClampNeg 1)) h) (R_227_117 2))
theorem r_227_106 {X : GX} {d : Nat} {r : Int32 × Hp} (hd : 6 ≤ d) (hq : RtX X (some (.int r.1)) r.2) {h : Hp} (e : R_227_106 h = some r) : G X d 227 106 [some (.ref 84), none, none, none] [] h := by
  unfold R_227_106 at e
  have g := gd_s e; clear e; obtain ⟨b0, e⟩ := g
  obtain ⟨x, h2, e1, e2⟩ := bndI_s e
  refine k_227_106 b0 (by omega) (t_184 e1) ?_
  rintro _ _ ⟨rfl, rfl⟩
  exact r_227_117 hd hq e2
noncomputable def R_227_103 (s1 : Int32) (s2 : Int32) (s3 : Nat) (s0 : Int32) (h : Hp) : Option (Int32 × Hp) := gd (sh s3 = (1, 9) ∧ s3 = 84) (bndV (S_178 s2 s1 s0 h) (R_227_106))
theorem r_227_103 {X : GX} {d : Nat} {r : Int32 × Hp} (hd : 6 ≤ d) (hq : RtX X (some (.int r.1)) r.2) {h : Hp} {s1 : Int32} {s2 : Int32} {s3 : Nat} {s0 : Int32} (e : R_227_103 s1 s2 s3 s0 h = some r) : G X d 227 103 [some (.ref 84), none, none, none] [.int s0, .int s1, .int s2, .ref s3] h := by
  unfold R_227_103 at e
  have g := gd_s e; clear e; obtain ⟨⟨o0, q0⟩, e⟩ := g
  subst q0
  obtain ⟨x, h2, e1, e2⟩ := bndV_s e
  refine k_227_103 o0 (by omega) (t_178 e1) ?_
  rintro _ rfl
  exact r_227_106 hd hq e2
noncomputable def R_227_94 (s1 : Int32) (s2 : Int32) (s3 : Nat) (s0 : Int32) (h : Hp) : Option (Int32 × Hp) := bndI (S_186 (s0 - 10) 0 99 h) (R_227_103 s1 s2 s3)
theorem r_227_94 {X : GX} {d : Nat} {r : Int32 × Hp} (hd : 6 ≤ d) (hq : RtX X (some (.int r.1)) r.2) {h : Hp} {s1 : Int32} {s2 : Int32} {s3 : Nat} {s0 : Int32} (e : R_227_94 s1 s2 s3 s0 h = some r) : G X d 227 94 [some (.ref 84), none, none, none] [.int s0, .int s1, .int s2, .ref s3] h := by
  unfold R_227_94 at e
  obtain ⟨x, h2, e1, e2⟩ := bndI_s e
  refine k_227_94 (by omega) (t_186 e1) ?_
  rintro _ _ ⟨rfl, rfl⟩
  exact r_227_103 hd hq e2
noncomputable def R_227_85 (v1 : Int32) (h : Hp) : Option (Int32 × Hp) := bndI (S_182 v1 1 h) (R_227_94 1 v1 84)
theorem r_227_85 {X : GX} {d : Nat} {r : Int32 × Hp} (hd : 6 ≤ d) (hq : RtX X (some (.int r.1)) r.2) {h : Hp} {v1 : Int32} (e : R_227_85 v1 h = some r) : G X d 227 85 [some (.ref 84), some (.int v1), none, none] [] h := by
  unfold R_227_85 at e
  obtain ⟨x, h2, e1, e2⟩ := bndI_s e
  refine k_227_85 (by omega) (t_182 e1) ?_
  rintro _ _ ⟨rfl, rfl⟩
  exact r_227_94 hd hq e2
noncomputable def R_227_82 (v1 : Int32) (s1 : Int32) (s2 : Int32) (s3 : Nat) (s0 : Int32) (h : Hp) : Option (Int32 × Hp) := gd (sh s3 = (1, 9) ∧ s3 = 84) (bndV (S_178 s2 s1 s0 h) (R_227_85 v1))
theorem r_227_82 {X : GX} {d : Nat} {r : Int32 × Hp} (hd : 6 ≤ d) (hq : RtX X (some (.int r.1)) r.2) {h : Hp} {v1 : Int32} {s1 : Int32} {s2 : Int32} {s3 : Nat} {s0 : Int32} (e : R_227_82 v1 s1 s2 s3 s0 h = some r) : G X d 227 82 [some (.ref 84), some (.int v1), none, none] [.int s0, .int s1, .int s2, .ref s3] h := by
  unfold R_227_82 at e
  have g := gd_s e; clear e; obtain ⟨⟨o0, q0⟩, e⟩ := g
  subst q0
  obtain ⟨x, h2, e1, e2⟩ := bndV_s e
  refine k_227_82 o0 (by omega) (t_178 e1) ?_
  rintro _ rfl
  exact r_227_85 hd hq e2
noncomputable def R_227_74 (v1 : Int32) (s1 : Int32) (s2 : Int32) (s3 : Nat) (s0 : Int32) (h : Hp) : Option (Int32 × Hp) := bndI (S_186 (s0 + 1) 0 9 h) (R_227_82 v1 s1 s2 s3)
theorem r_227_74 {X : GX} {d : Nat} {r : Int32 × Hp} (hd : 6 ≤ d) (hq : RtX X (some (.int r.1)) r.2) {h : Hp} {v1 : Int32} {s1 : Int32} {s2 : Int32} {s3 : Nat} {s0 : Int32} (e : R_227_74 v1 s1 s2 s3 s0 h = some r) : G X d 227 74 [some (.ref 84), some (.int v1), none, none] [.int s0, .int s1, .int s2, .ref s3] h := by
  unfold R_227_74 at e
  obtain ⟨x, h2, e1, e2⟩ := bndI_s e
  refine k_227_74 (by omega) (t_186 e1) ?_
  rintro _ _ ⟨rfl, rfl⟩
  exact r_227_82 hd hq e2
noncomputable def R_227_65 (v1 : Int32) (h : Hp) : Option (Int32 × Hp) := bndI (S_182 v1 2 h) (R_227_74 v1 2 v1 84)
theorem r_227_65 {X : GX} {d : Nat} {r : Int32 × Hp} (hd : 6 ≤ d) (hq : RtX X (some (.int r.1)) r.2) {h : Hp} {v1 : Int32} (e : R_227_65 v1 h = some r) : G X d 227 65 [some (.ref 84), some (.int v1), none, none] [] h := by
  unfold R_227_65 at e
  obtain ⟨x, h2, e1, e2⟩ := bndI_s e
  refine k_227_65 (by omega) (t_182 e1) ?_
  rintro _ _ ⟨rfl, rfl⟩
  exact r_227_74 hd hq e2
noncomputable def R_227_60 (v1 : Int32) (v2 : Int32) (h : Hp) : Option (Int32 × Hp) := if v2 = 2 then R_227_65 v1 h else R_227_121 h
theorem r_227_60 {X : GX} {d : Nat} {r : Int32 × Hp} (hd : 6 ≤ d) (hq : RtX X (some (.int r.1)) r.2) {h : Hp} {v1 : Int32} {v2 : Int32} (e : R_227_60 v1 v2 h = some r) : G X d 227 60 [some (.ref 84), some (.int v1), some (.int v2), none] [] h := by
  unfold R_227_60 at e
  refine k_227_60 (fun c => ?_) (fun c => ?_)
  · rw [if_neg c] at e; exact r_227_121 hd hq e
  · rw [if_pos c] at e; exact r_227_65 hd hq e
noncomputable def R_227_58 (v3 : Int32) (h : Hp) : Option (Int32 × Hp) := some (v3, h)
theorem r_227_58 {X : GX} {d : Nat} {r : Int32 × Hp} (hd : 6 ≤ d) (hq : RtX X (some (.int r.1)) r.2) {h : Hp} {v3 : Int32} (e : R_227_58 v3 h = some r) : G X d 227 58 [none, none, none, some (.int v3)] [] h := by
  unfold R_227_58 at e
  rw [← Option.some.inj e] at hq
  exact k_227_58 hq
noncomputable def R_227_54 (v3 : Int32) (s1 : Int32) (s2 : Nat) (s0 : Int32) (h : Hp) : Option (Int32 × Hp) := gd (sh s2 = (1, 9) ∧ s2 = 84) (bndV (S_178 s1 s0 0 h) (R_227_58 v3))
theorem r_227_54 {X : GX} {d : Nat} {r : Int32 × Hp} (hd : 6 ≤ d) (hq : RtX X (some (.int r.1)) r.2) {h : Hp} {v3 : Int32} {s1 : Int32} {s2 : Nat} {s0 : Int32} (e : R_227_54 v3 s1 s2 s0 h = some r) : G X d 227 54 [none, none, none, some (.int v3)] [.int s0, .int s1, .ref s2] h := by
  unfold R_227_54 at e
  have g := gd_s e; clear e; obtain ⟨⟨o0, q0⟩, e⟩ := g
  subst q0
  obtain ⟨x, h2, e1, e2⟩ := bndV_s e
  refine k_227_54 o0 (by omega) (t_178 e1) ?_
  rintro _ rfl
  exact r_227_58 hd hq e2
noncomputable def R_227_50 (v3 : Int32) (s1 : Int32) (s2 : Nat) (s0 : Int32) (h : Hp) : Option (Int32 × Hp) := gd (sh s2 = (1, 9) ∧ s2 = 84) (bndV (S_178 s1 s0 1 h) (R_227_58 v3))
theorem r_227_50 {X : GX} {d : Nat} {r : Int32 × Hp} (hd : 6 ≤ d) (hq : RtX X (some (.int r.1)) r.2) {h : Hp} {v3 : Int32} {s1 : Int32} {s2 : Nat} {s0 : Int32} (e : R_227_50 v3 s1 s2 s0 h = some r) : G X d 227 50 [none, none, none, some (.int v3)] [.int s0, .int s1, .ref s2] h := by
  unfold R_227_50 at e
  have g := gd_s e; clear e; obtain ⟨⟨o0, q0⟩, e⟩ := g
  subst q0
  obtain ⟨x, h2, e1, e2⟩ := bndV_s e
  refine k_227_50 o0 (by omega) (t_178 e1) ?_
  rintro _ rfl
  exact r_227_58 hd hq e2
noncomputable def R_227_45 (v3 : Int32) (s1 : Int32) (s2 : Int32) (s3 : Nat) (s0 : Int32) (h : Hp) : Option (Int32 × Hp) := if s0 < 60 then R_227_54 v3 s2 s3 s1 h else R_227_50 v3 s2 s3 s1 h
theorem r_227_45 {X : GX} {d : Nat} {r : Int32 × Hp} (hd : 6 ≤ d) (hq : RtX X (some (.int r.1)) r.2) {h : Hp} {v3 : Int32} {s1 : Int32} {s2 : Int32} {s3 : Nat} {s0 : Int32} (e : R_227_45 v3 s1 s2 s3 s0 h = some r) : G X d 227 45 [none, none, none, some (.int v3)] [.int s0, .int s1, .int s2, .ref s3] h := by
  unfold R_227_45 at e
  refine k_227_45 (fun c => ?_) (fun c => ?_)
  · rw [if_pos c] at e; exact r_227_54 hd hq e
  · rw [if_neg c] at e; exact r_227_50 hd hq e
noncomputable def R_227_36 (v1 : Int32) (v3 : Int32) (h : Hp) : Option (Int32 × Hp) := bndI (S_182 v1 1 h) (R_227_45 v3 4 v1 84)
theorem r_227_36 {X : GX} {d : Nat} {r : Int32 × Hp} (hd : 6 ≤ d) (hq : RtX X (some (.int r.1)) r.2) {h : Hp} {v1 : Int32} {v3 : Int32} (e : R_227_36 v1 v3 h = some r) : G X d 227 36 [some (.ref 84), some (.int v1), none, some (.int v3)] [] h := by
  unfold R_227_36 at e
  obtain ⟨x, h2, e1, e2⟩ := bndI_s e
  refine k_227_36 (by omega) (t_182 e1) ?_
  rintro _ _ ⟨rfl, rfl⟩
  exact r_227_45 hd hq e2
noncomputable def R_227_33 (v1 : Int32) (v3 : Int32) (s1 : Int32) (s2 : Int32) (s3 : Nat) (s0 : Int32) (h : Hp) : Option (Int32 × Hp) := gd (sh s3 = (1, 9) ∧ s3 = 84) (bndV (S_178 s2 s1 s0 h) (R_227_36 v1 v3))
theorem r_227_33 {X : GX} {d : Nat} {r : Int32 × Hp} (hd : 6 ≤ d) (hq : RtX X (some (.int r.1)) r.2) {h : Hp} {v1 : Int32} {v3 : Int32} {s1 : Int32} {s2 : Int32} {s3 : Nat} {s0 : Int32} (e : R_227_33 v1 v3 s1 s2 s3 s0 h = some r) : G X d 227 33 [some (.ref 84), some (.int v1), none, some (.int v3)] [.int s0, .int s1, .int s2, .ref s3] h := by
  unfold R_227_33 at e
  have g := gd_s e; clear e; obtain ⟨⟨o0, q0⟩, e⟩ := g
  subst q0
  obtain ⟨x, h2, e1, e2⟩ := bndV_s e
  refine k_227_33 o0 (by omega) (t_178 e1) ?_
  rintro _ rfl
  exact r_227_36 hd hq e2
noncomputable def R_227_25 (v1 : Int32) (v3 : Int32) (s1 : Int32) (s2 : Int32) (s3 : Nat) (s0 : Int32) (h : Hp) : Option (Int32 × Hp) := bndI (S_186 (s0 + v3) 0 99 h) (R_227_33 v1 v3 s1 s2 s3)
theorem r_227_25 {X : GX} {d : Nat} {r : Int32 × Hp} (hd : 6 ≤ d) (hq : RtX X (some (.int r.1)) r.2) {h : Hp} {v1 : Int32} {v3 : Int32} {s1 : Int32} {s2 : Int32} {s3 : Nat} {s0 : Int32} (e : R_227_25 v1 v3 s1 s2 s3 s0 h = some r) : G X d 227 25 [some (.ref 84), some (.int v1), none, some (.int v3)] [.int s0, .int s1, .int s2, .ref s3] h := by
  unfold R_227_25 at e
  obtain ⟨x, h2, e1, e2⟩ := bndI_s e
  refine k_227_25 (by omega) (t_186 e1) ?_
  rintro _ _ ⟨rfl, rfl⟩
  exact r_227_33 hd hq e2
noncomputable def R_227_15 (v1 : Int32) (s0 : Int32) (h : Hp) : Option (Int32 × Hp) := bndI (S_182 v1 1 h) (R_227_25 v1 s0 1 v1 84)
theorem r_227_15 {X : GX} {d : Nat} {r : Int32 × Hp} (hd : 6 ≤ d) (hq : RtX X (some (.int r.1)) r.2) {h : Hp} {v1 : Int32} {s0 : Int32} (e : R_227_15 v1 s0 h = some r) : G X d 227 15 [some (.ref 84), some (.int v1), none, none] [.int s0] h := by
  unfold R_227_15 at e
  obtain ⟨x, h2, e1, e2⟩ := bndI_s e
  refine k_227_15 (by omega) (t_182 e1) ?_
  rintro _ _ ⟨rfl, rfl⟩
  exact r_227_25 hd hq e2
noncomputable def R_227_10 (v1 : Int32) (h : Hp) : Option (Int32 × Hp) := bndI (S_181 v1 h) (R_227_15 v1)
theorem r_227_10 {X : GX} {d : Nat} {r : Int32 × Hp} (hd : 6 ≤ d) (hq : RtX X (some (.int r.1)) r.2) {h : Hp} {v1 : Int32} (e : R_227_10 v1 h = some r) : G X d 227 10 [some (.ref 84), some (.int v1), none, none] [] h := by
  unfold R_227_10 at e
  obtain ⟨x, h2, e1, e2⟩ := bndI_s e
  refine k_227_10 (by omega) (t_181 e1) ?_
  rintro _ _ ⟨rfl, rfl⟩
  exact r_227_15 hd hq e2
noncomputable def R_227_5 (v1 : Int32) (s0 : Int32) (h : Hp) : Option (Int32 × Hp) := if s0 = 0 then R_227_10 v1 h else R_227_60 v1 s0 h
theorem r_227_5 {X : GX} {d : Nat} {r : Int32 × Hp} (hd : 6 ≤ d) (hq : RtX X (some (.int r.1)) r.2) {h : Hp} {v1 : Int32} {s0 : Int32} (e : R_227_5 v1 s0 h = some r) : G X d 227 5 [some (.ref 84), some (.int v1), none, none] [.int s0] h := by
  unfold R_227_5 at e
  refine k_227_5 (fun c => ?_) (fun c => ?_)
  · rw [if_neg c] at e; exact r_227_60 hd hq e
  · rw [if_pos c] at e; exact r_227_10 hd hq e
noncomputable def R_227_0 (v1 : Int32) (h : Hp) : Option (Int32 × Hp) := bndI (S_191 v1 h) (R_227_5 v1)
theorem r_227_0 {X : GX} {d : Nat} {r : Int32 × Hp} (hd : 6 ≤ d) (hq : RtX X (some (.int r.1)) r.2) {h : Hp} {v1 : Int32} (e : R_227_0 v1 h = some r) : G X d 227 0 [some (.ref 84), some (.int v1), none, none] [] h := by
  unfold R_227_0 at e
  obtain ⟨x, h2, e1, e2⟩ := bndI_s e
  refine k_227_0 (by omega) (t_191 e1) ?_
  rintro _ _ ⟨rfl, rfl⟩
  exact r_227_5 hd hq e2
noncomputable def S_227 (v1 : Int32) (h : Hp) : Option (Int32 × Hp) := R_227_0 v1 h
set_option maxRecDepth 100000 in
theorem t_227 {v1 : Int32} {h : Hp} {r : Int32 × Hp} (e : S_227 v1 h = some r) : CI 6 227 [.ref 84, .int v1] h (fun x g => x = r.1 ∧ g = r.2) := by
  refine C.of mo_227 (Nat.le_of_ble_eq_true rfl) (fun X hq => ?_)
  exact r_227_0 (Nat.le_refl _) (hq _ _ ⟨_, rfl, rfl, rfl⟩) e
/-! 226 PlayedTruthModel.nightGoes(I)I -/
noncomputable def R_226_100 (v2 : Int32) (h : Hp) : Option (Int32 × Hp) := gd (IA 85 3 ∧ IA 85 1) (some (v2, (wr (wr h 85 (Int32.toNatClampNeg 3) ((h 85 (Int32.toNatClampNeg 3)) + v2)) 85 (Int32.toNatClampNeg 1) (((wr h 85 (Int32.toNatClampNeg 3) ((h 85 (Int32.toNatClampNeg 3)) + v2)) 85 (Int32.toNatClampNeg 1)) + 1))))
theorem r_226_100 {X : GX} {d : Nat} {r : Int32 × Hp} (hd : 7 ≤ d) (hq : RtX X (some (.int r.1)) r.2) {h : Hp} {v2 : Int32} (e : R_226_100 v2 h = some r) : G X d 226 100 [some (.ref 84), none, some (.int v2), none] [] h := by
  unfold R_226_100 at e
  have g := gd_s e; clear e; obtain ⟨⟨b0, b1⟩, e⟩ := g
  rw [← Option.some.inj e] at hq
  exact k_226_100 b0 b1 hq
noncomputable def R_226_94 (rec_55 : Int32 → Int32 → Hp → Option (Int32 × Hp)) (v2 : Int32) (v3 : Int32) (h : Hp) : Option (Int32 × Hp) := rec_55 v2 (v3 + 1) h
theorem r_226_94 {X : GX} {d : Nat} {r : Int32 × Hp} (hd : 7 ≤ d) (hq : RtX X (some (.int r.1)) r.2) {rec_55 : Int32 → Int32 → Hp → Option (Int32 × Hp)} (hr_55 : ∀ {v2 : Int32} {v3 : Int32} {h : Hp}, rec_55 v2 v3 h = some r → G X d 226 55 [some (.ref 84), none, some (.int v2), some (.int v3)] [] h) {h : Hp} {v2 : Int32} {v3 : Int32} (e : R_226_94 rec_55 v2 v3 h = some r) : G X d 226 94 [some (.ref 84), none, some (.int v2), some (.int v3)] [] h := by
  unfold R_226_94 at e
  exact k_226_94 (hr_55 e)
noncomputable def R_226_91 (rec_55 : Int32 → Int32 → Hp → Option (Int32 × Hp)) (v2 : Int32) (v3 : Int32) (s1 : Int32) (s2 : Int32) (s3 : Nat) (s0 : Int32) (h : Hp) : Option (Int32 × Hp) := gd (sh s3 = (1, 9) ∧ s3 = 84) (bndV (S_178 s2 s1 s0 h) (R_226_94 rec_55 v2 v3))
theorem r_226_91 {X : GX} {d : Nat} {r : Int32 × Hp} (hd : 7 ≤ d) (hq : RtX X (some (.int r.1)) r.2) {rec_55 : Int32 → Int32 → Hp → Option (Int32 × Hp)} (hr_55 : ∀ {v2 : Int32} {v3 : Int32} {h : Hp}, rec_55 v2 v3 h = some r → G X d 226 55 [some (.ref 84), none, some (.int v2), some (.int v3)] [] h) {h : Hp} {v2 : Int32} {v3 : Int32} {s1 : Int32} {s2 : Int32} {s3 : Nat} {s0 : Int32} (e : R_226_91 rec_55 v2 v3 s1 s2 s3 s0 h = some r) : G X d 226 91 [some (.ref 84), none, some (.int v2), some (.int v3)] [.int s0, .int s1, .int s2, .ref s3] h := by
  unfold R_226_91 at e
  have g := gd_s e; clear e; obtain ⟨⟨o0, q0⟩, e⟩ := g
  subst q0
  obtain ⟨x, h2, e1, e2⟩ := bndV_s e
  refine k_226_91 o0 (by omega) (t_178 e1) ?_
  rintro _ rfl
  exact r_226_94 hd hq hr_55 e2
noncomputable def R_226_83 (rec_55 : Int32 → Int32 → Hp → Option (Int32 × Hp)) (v2 : Int32) (v3 : Int32) (s1 : Int32) (s2 : Int32) (s3 : Nat) (s0 : Int32) (h : Hp) : Option (Int32 × Hp) := bndI (S_186 (s0 - 1) 0 99 h) (R_226_91 rec_55 v2 v3 s1 s2 s3)
theorem r_226_83 {X : GX} {d : Nat} {r : Int32 × Hp} (hd : 7 ≤ d) (hq : RtX X (some (.int r.1)) r.2) {rec_55 : Int32 → Int32 → Hp → Option (Int32 × Hp)} (hr_55 : ∀ {v2 : Int32} {v3 : Int32} {h : Hp}, rec_55 v2 v3 h = some r → G X d 226 55 [some (.ref 84), none, some (.int v2), some (.int v3)] [] h) {h : Hp} {v2 : Int32} {v3 : Int32} {s1 : Int32} {s2 : Int32} {s3 : Nat} {s0 : Int32} (e : R_226_83 rec_55 v2 v3 s1 s2 s3 s0 h = some r) : G X d 226 83 [some (.ref 84), none, some (.int v2), some (.int v3)] [.int s0, .int s1, .int s2, .ref s3] h := by
  unfold R_226_83 at e
  obtain ⟨x, h2, e1, e2⟩ := bndI_s e
  refine k_226_83 (by omega) (t_186 e1) ?_
  rintro _ _ ⟨rfl, rfl⟩
  exact r_226_91 hd hq hr_55 e2
noncomputable def R_226_74 (rec_55 : Int32 → Int32 → Hp → Option (Int32 × Hp)) (v2 : Int32) (v3 : Int32) (h : Hp) : Option (Int32 × Hp) := bndI (S_182 v3 1 h) (R_226_83 rec_55 v2 v3 1 v3 84)
theorem r_226_74 {X : GX} {d : Nat} {r : Int32 × Hp} (hd : 7 ≤ d) (hq : RtX X (some (.int r.1)) r.2) {rec_55 : Int32 → Int32 → Hp → Option (Int32 × Hp)} (hr_55 : ∀ {v2 : Int32} {v3 : Int32} {h : Hp}, rec_55 v2 v3 h = some r → G X d 226 55 [some (.ref 84), none, some (.int v2), some (.int v3)] [] h) {h : Hp} {v2 : Int32} {v3 : Int32} (e : R_226_74 rec_55 v2 v3 h = some r) : G X d 226 74 [some (.ref 84), none, some (.int v2), some (.int v3)] [] h := by
  unfold R_226_74 at e
  obtain ⟨x, h2, e1, e2⟩ := bndI_s e
  refine k_226_74 (by omega) (t_182 e1) ?_
  rintro _ _ ⟨rfl, rfl⟩
  exact r_226_83 hd hq hr_55 e2
noncomputable def R_226_71 (rec_55 : Int32 → Int32 → Hp → Option (Int32 × Hp)) (v2 : Int32) (v3 : Int32) (s0 : Int32) (h : Hp) : Option (Int32 × Hp) := if s0 = 0 then R_226_74 rec_55 v2 v3 h else R_226_94 rec_55 v2 v3 h
theorem r_226_71 {X : GX} {d : Nat} {r : Int32 × Hp} (hd : 7 ≤ d) (hq : RtX X (some (.int r.1)) r.2) {rec_55 : Int32 → Int32 → Hp → Option (Int32 × Hp)} (hr_55 : ∀ {v2 : Int32} {v3 : Int32} {h : Hp}, rec_55 v2 v3 h = some r → G X d 226 55 [some (.ref 84), none, some (.int v2), some (.int v3)] [] h) {h : Hp} {v2 : Int32} {v3 : Int32} {s0 : Int32} (e : R_226_71 rec_55 v2 v3 s0 h = some r) : G X d 226 71 [some (.ref 84), none, some (.int v2), some (.int v3)] [.int s0] h := by
  unfold R_226_71 at e
  refine k_226_71 (fun c => ?_) (fun c => ?_)
  · rw [if_neg c] at e; exact r_226_94 hd hq hr_55 e
  · rw [if_pos c] at e; exact r_226_74 hd hq hr_55 e
noncomputable def R_226_65 (rec_55 : Int32 → Int32 → Hp → Option (Int32 × Hp)) (v2 : Int32) (v3 : Int32) (h : Hp) : Option (Int32 × Hp) := bndI (S_182 v3 4 h) (R_226_71 rec_55 v2 v3)
theorem r_226_65 {X : GX} {d : Nat} {r : Int32 × Hp} (hd : 7 ≤ d) (hq : RtX X (some (.int r.1)) r.2) {rec_55 : Int32 → Int32 → Hp → Option (Int32 × Hp)} (hr_55 : ∀ {v2 : Int32} {v3 : Int32} {h : Hp}, rec_55 v2 v3 h = some r → G X d 226 55 [some (.ref 84), none, some (.int v2), some (.int v3)] [] h) {h : Hp} {v2 : Int32} {v3 : Int32} (e : R_226_65 rec_55 v2 v3 h = some r) : G X d 226 65 [some (.ref 84), none, some (.int v2), some (.int v3)] [] h := by
  unfold R_226_65 at e
  obtain ⟨x, h2, e1, e2⟩ := bndI_s e
  refine k_226_65 (by omega) (t_182 e1) ?_
  rintro _ _ ⟨rfl, rfl⟩
  exact r_226_71 hd hq hr_55 e2
noncomputable def R_226_55 (rec_55 : Int32 → Int32 → Hp → Option (Int32 × Hp)) (v2 : Int32) (v3 : Int32) (h : Hp) : Option (Int32 × Hp) := gd (IA 85 0) (if (h 85 (Int32.toNatClampNeg 0)) ≤ v3 then R_226_100 v2 h else R_226_65 rec_55 v2 v3 h)
theorem r_226_55 {X : GX} {d : Nat} {r : Int32 × Hp} (hd : 7 ≤ d) (hq : RtX X (some (.int r.1)) r.2) {rec_55 : Int32 → Int32 → Hp → Option (Int32 × Hp)} (hr_55 : ∀ {v2 : Int32} {v3 : Int32} {h : Hp}, rec_55 v2 v3 h = some r → G X d 226 55 [some (.ref 84), none, some (.int v2), some (.int v3)] [] h) {h : Hp} {v2 : Int32} {v3 : Int32} (e : R_226_55 rec_55 v2 v3 h = some r) : G X d 226 55 [some (.ref 84), none, some (.int v2), some (.int v3)] [] h := by
  unfold R_226_55 at e
  have g := gd_s e; clear e; obtain ⟨b0, e⟩ := g
  refine k_226_55 b0 (fun c => ?_) (fun c => ?_)
  · rw [if_pos c] at e; exact r_226_100 hd hq e
  · rw [if_neg c] at e; exact r_226_65 hd hq hr_55 e
noncomputable def H_226_55 : Nat → Int32 → Int32 → Hp → Option (Int32 × Hp)
  | 0, _, _, _ => none
  | n + 1, v2, v3, h => R_226_55 (H_226_55 n) v2 v3 h
theorem h_226_55 {X : GX} {d : Nat} {r : Int32 × Hp} (hd : 7 ≤ d) (hq : RtX X (some (.int r.1)) r.2) {n : Nat} {h : Hp} {v2 : Int32} {v3 : Int32} (e : H_226_55 n v2 v3 h = some r) : G X d 226 55 [some (.ref 84), none, some (.int v2), some (.int v3)] [] h := by
  induction n generalizing v2 v3 h with
  | zero => cases e
  | succ n ih => exact r_226_55 hd hq (fun e => ih e) e
noncomputable def R_226_53 (v2 : Int32) (h : Hp) : Option (Int32 × Hp) := H_226_55 fuL v2 0 h
theorem r_226_53 {X : GX} {d : Nat} {r : Int32 × Hp} (hd : 7 ≤ d) (hq : RtX X (some (.int r.1)) r.2) {h : Hp} {v2 : Int32} (e : R_226_53 v2 h = some r) : G X d 226 53 [some (.ref 84), none, some (.int v2), none] [] h := by
  unfold R_226_53 at e
  exact k_226_53 (h_226_55 hd hq e)
noncomputable def R_226_45 (rec_29 : Int32 → Int32 → Hp → Option (Int32 × Hp)) (v3 : Int32) (s1 : Int32) (s0 : Int32) (h : Hp) : Option (Int32 × Hp) := rec_29 (s1 + s0) (v3 + 1) h
theorem r_226_45 {X : GX} {d : Nat} {r : Int32 × Hp} (hd : 7 ≤ d) (hq : RtX X (some (.int r.1)) r.2) {rec_29 : Int32 → Int32 → Hp → Option (Int32 × Hp)} (hr_29 : ∀ {v2 : Int32} {v3 : Int32} {h : Hp}, rec_29 v2 v3 h = some r → G X d 226 29 [some (.ref 84), none, some (.int v2), some (.int v3)] [] h) {h : Hp} {v3 : Int32} {s1 : Int32} {s0 : Int32} (e : R_226_45 rec_29 v3 s1 s0 h = some r) : G X d 226 45 [some (.ref 84), none, none, some (.int v3)] [.int s0, .int s1] h := by
  unfold R_226_45 at e
  exact k_226_45 (hr_29 e)
noncomputable def R_226_39 (rec_29 : Int32 → Int32 → Hp → Option (Int32 × Hp)) (v2 : Int32) (v3 : Int32) (h : Hp) : Option (Int32 × Hp) := bndI (S_188 v3 h) (R_226_45 rec_29 v3 v2)
theorem r_226_39 {X : GX} {d : Nat} {r : Int32 × Hp} (hd : 7 ≤ d) (hq : RtX X (some (.int r.1)) r.2) {rec_29 : Int32 → Int32 → Hp → Option (Int32 × Hp)} (hr_29 : ∀ {v2 : Int32} {v3 : Int32} {h : Hp}, rec_29 v2 v3 h = some r → G X d 226 29 [some (.ref 84), none, some (.int v2), some (.int v3)] [] h) {h : Hp} {v2 : Int32} {v3 : Int32} (e : R_226_39 rec_29 v2 v3 h = some r) : G X d 226 39 [some (.ref 84), none, some (.int v2), some (.int v3)] [] h := by
  unfold R_226_39 at e
  obtain ⟨x, h2, e1, e2⟩ := bndI_s e
  refine k_226_39 (by omega) (t_188 e1) ?_
  rintro _ _ ⟨rfl, rfl⟩
  exact r_226_45 hd hq hr_29 e2
noncomputable def R_226_29 (rec_29 : Int32 → Int32 → Hp → Option (Int32 × Hp)) (v2 : Int32) (v3 : Int32) (h : Hp) : Option (Int32 × Hp) := gd (IA 85 0) (if (h 85 (Int32.toNatClampNeg 0)) ≤ v3 then R_226_53 v2 h else R_226_39 rec_29 v2 v3 h)
theorem r_226_29 {X : GX} {d : Nat} {r : Int32 × Hp} (hd : 7 ≤ d) (hq : RtX X (some (.int r.1)) r.2) {rec_29 : Int32 → Int32 → Hp → Option (Int32 × Hp)} (hr_29 : ∀ {v2 : Int32} {v3 : Int32} {h : Hp}, rec_29 v2 v3 h = some r → G X d 226 29 [some (.ref 84), none, some (.int v2), some (.int v3)] [] h) {h : Hp} {v2 : Int32} {v3 : Int32} (e : R_226_29 rec_29 v2 v3 h = some r) : G X d 226 29 [some (.ref 84), none, some (.int v2), some (.int v3)] [] h := by
  unfold R_226_29 at e
  have g := gd_s e; clear e; obtain ⟨b0, e⟩ := g
  refine k_226_29 b0 (fun c => ?_) (fun c => ?_)
  · rw [if_pos c] at e; exact r_226_53 hd hq e
  · rw [if_neg c] at e; exact r_226_39 hd hq hr_29 e
noncomputable def H_226_29 : Nat → Int32 → Int32 → Hp → Option (Int32 × Hp)
  | 0, _, _, _ => none
  | n + 1, v2, v3, h => R_226_29 (H_226_29 n) v2 v3 h
theorem h_226_29 {X : GX} {d : Nat} {r : Int32 × Hp} (hd : 7 ≤ d) (hq : RtX X (some (.int r.1)) r.2) {n : Nat} {h : Hp} {v2 : Int32} {v3 : Int32} (e : H_226_29 n v2 v3 h = some r) : G X d 226 29 [some (.ref 84), none, some (.int v2), some (.int v3)] [] h := by
  induction n generalizing v2 v3 h with
  | zero => cases e
  | succ n ih => exact r_226_29 hd hq (fun e => ih e) e
noncomputable def R_226_25 (h : Hp) : Option (Int32 × Hp) := H_226_29 fuL 0 0 h
theorem r_226_25 {X : GX} {d : Nat} {r : Int32 × Hp} (hd : 7 ≤ d) (hq : RtX X (some (.int r.1)) r.2) {h : Hp} (e : R_226_25 h = some r) : G X d 226 25 [some (.ref 84), none, none, none] [] h := by
  unfold R_226_25 at e
  exact k_226_25 (h_226_29 hd hq e)
noncomputable def R_226_22 (s0 : Int32) (h : Hp) : Option (Int32 × Hp) := H_226_29 fuL s0 0 h
theorem r_226_22 {X : GX} {d : Nat} {r : Int32 × Hp} (hd : 7 ≤ d) (hq : RtX X (some (.int r.1)) r.2) {h : Hp} {s0 : Int32} (e : R_226_22 s0 h = some r) : G X d 226 22 [some (.ref 84), none, none, none] [.int s0] h := by
  unfold R_226_22 at e
  exact k_226_22 (h_226_29 hd hq e)
noncomputable def R_226_15 (v1 : Int32) (h : Hp) : Option (Int32 × Hp) := bndI (S_227 (v1 - 1) h) (R_226_22)
theorem r_226_15 {X : GX} {d : Nat} {r : Int32 × Hp} (hd : 7 ≤ d) (hq : RtX X (some (.int r.1)) r.2) {h : Hp} {v1 : Int32} (e : R_226_15 v1 h = some r) : G X d 226 15 [some (.ref 84), some (.int v1), none, none] [] h := by
  unfold R_226_15 at e
  obtain ⟨x, h2, e1, e2⟩ := bndI_s e
  refine k_226_15 (by omega) (t_227 e1) ?_
  rintro _ _ ⟨rfl, rfl⟩
  exact r_226_22 hd hq e2
noncomputable def R_226_12 (v1 : Int32) (s0 : Int32) (h : Hp) : Option (Int32 × Hp) := if s0 = 0 then R_226_15 v1 h else R_226_25 h
theorem r_226_12 {X : GX} {d : Nat} {r : Int32 × Hp} (hd : 7 ≤ d) (hq : RtX X (some (.int r.1)) r.2) {h : Hp} {v1 : Int32} {s0 : Int32} (e : R_226_12 v1 s0 h = some r) : G X d 226 12 [some (.ref 84), some (.int v1), none, none] [.int s0] h := by
  unfold R_226_12 at e
  refine k_226_12 (fun c => ?_) (fun c => ?_)
  · rw [if_neg c] at e; exact r_226_25 hd hq e
  · rw [if_pos c] at e; exact r_226_15 hd hq e
noncomputable def R_226_4 (v1 : Int32) (h : Hp) : Option (Int32 × Hp) := bndI (S_182 (v1 - 1) 4 h) (R_226_12 v1)
theorem r_226_4 {X : GX} {d : Nat} {r : Int32 × Hp} (hd : 7 ≤ d) (hq : RtX X (some (.int r.1)) r.2) {h : Hp} {v1 : Int32} (e : R_226_4 v1 h = some r) : G X d 226 4 [some (.ref 84), some (.int v1), none, none] [] h := by
  unfold R_226_4 at e
  obtain ⟨x, h2, e1, e2⟩ := bndI_s e
  refine k_226_4 (by omega) (t_182 e1) ?_
  rintro _ _ ⟨rfl, rfl⟩
  exact r_226_12 hd hq e2
noncomputable def R_226_0 (v1 : Int32) (h : Hp) : Option (Int32 × Hp) := if v1 ≤ 0 then R_226_25 h else R_226_4 v1 h
theorem r_226_0 {X : GX} {d : Nat} {r : Int32 × Hp} (hd : 7 ≤ d) (hq : RtX X (some (.int r.1)) r.2) {h : Hp} {v1 : Int32} (e : R_226_0 v1 h = some r) : G X d 226 0 [some (.ref 84), some (.int v1), none, none] [] h := by
  unfold R_226_0 at e
  refine k_226_0 (fun c => ?_) (fun c => ?_)
  · rw [if_pos c] at e; exact r_226_25 hd hq e
  · rw [if_neg c] at e; exact r_226_4 hd hq e
noncomputable def S_226 (v1 : Int32) (h : Hp) : Option (Int32 × Hp) := R_226_0 v1 h
set_option maxRecDepth 100000 in
theorem t_226 {v1 : Int32} {h : Hp} {r : Int32 × Hp} (e : S_226 v1 h = some r) : CI 7 226 [.ref 84, .int v1] h (fun x g => x = r.1 ∧ g = r.2) := by
  refine C.of mo_226 (Nat.le_of_ble_eq_true rfl) (fun X hq => ?_)
  exact r_226_0 (Nat.le_refl _) (hq _ _ ⟨_, rfl, rfl, rfl⟩) e
/-! 224 PlayedTruthModel.night()I -/
noncomputable def R_224_20 (s0 : Int32) (h : Hp) : Option (Int32 × Hp) := some (s0, h)
theorem r_224_20 {X : GX} {d : Nat} {r : Int32 × Hp} (hd : 8 ≤ d) (hq : RtX X (some (.int r.1)) r.2) {h : Hp} {s0 : Int32} (e : R_224_20 s0 h = some r) : G X d 224 20 [none] [.int s0] h := by
  unfold R_224_20 at e
  rw [← Option.some.inj e] at hq
  exact k_224_20 hq
noncomputable def R_224_17 (s1 : Nat) (s0 : Int32) (h : Hp) : Option (Int32 × Hp) := gd (sh s1 = (1, 9) ∧ s1 = 84) (bndI (S_226 s0 h) (R_224_20))
theorem r_224_17 {X : GX} {d : Nat} {r : Int32 × Hp} (hd : 8 ≤ d) (hq : RtX X (some (.int r.1)) r.2) {h : Hp} {s1 : Nat} {s0 : Int32} (e : R_224_17 s1 s0 h = some r) : G X d 224 17 [none] [.int s0, .ref s1] h := by
  unfold R_224_17 at e
  have g := gd_s e; clear e; obtain ⟨⟨o0, q0⟩, e⟩ := g
  subst q0
  obtain ⟨x, h2, e1, e2⟩ := bndI_s e
  refine k_224_17 o0 (by omega) (t_226 e1) ?_
  rintro _ _ ⟨rfl, rfl⟩
  exact r_224_20 hd hq e2
noncomputable def R_224_12 (h : Hp) : Option (Int32 × Hp) := bndI (S_225 h) (R_224_17 84)
theorem r_224_12 {X : GX} {d : Nat} {r : Int32 × Hp} (hd : 8 ≤ d) (hq : RtX X (some (.int r.1)) r.2) {h : Hp} (e : R_224_12 h = some r) : G X d 224 12 [some (.ref 84)] [] h := by
  unfold R_224_12 at e
  obtain ⟨x, h2, e1, e2⟩ := bndI_s e
  refine k_224_12 (by omega) (t_225 e1) ?_
  rintro _ _ ⟨rfl, rfl⟩
  exact r_224_17 hd hq e2
noncomputable def R_224_7 (h : Hp) : Option (Int32 × Hp) := some (((-4)), h)
theorem r_224_7 {X : GX} {d : Nat} {r : Int32 × Hp} (hd : 8 ≤ d) (hq : RtX X (some (.int r.1)) r.2) {h : Hp} (e : R_224_7 h = some r) : G X d 224 7 [none] [] h := by
  unfold R_224_7 at e
  rw [← Option.some.inj e] at hq
  exact k_224_7 hq
noncomputable def R_224_4 (s0 : Int32) (h : Hp) : Option (Int32 × Hp) := if s0 = 0 then R_224_12 h else R_224_7 h
theorem r_224_4 {X : GX} {d : Nat} {r : Int32 × Hp} (hd : 8 ≤ d) (hq : RtX X (some (.int r.1)) r.2) {h : Hp} {s0 : Int32} (e : R_224_4 s0 h = some r) : G X d 224 4 [some (.ref 84)] [.int s0] h := by
  unfold R_224_4 at e
  refine k_224_4 (fun c => ?_) (fun c => ?_)
  · rw [if_pos c] at e; exact r_224_12 hd hq e
  · rw [if_neg c] at e; exact r_224_7 hd hq e
noncomputable def R_224_0 (h : Hp) : Option (Int32 × Hp) := bndI (S_205 h) (R_224_4)
theorem r_224_0 {X : GX} {d : Nat} {r : Int32 × Hp} (hd : 8 ≤ d) (hq : RtX X (some (.int r.1)) r.2) {h : Hp} (e : R_224_0 h = some r) : G X d 224 0 [some (.ref 84)] [] h := by
  unfold R_224_0 at e
  obtain ⟨x, h2, e1, e2⟩ := bndI_s e
  refine k_224_0 (by omega) (t_205 e1) ?_
  rintro _ _ ⟨rfl, rfl⟩
  exact r_224_4 hd hq e2
noncomputable def S_224 (h : Hp) : Option (Int32 × Hp) := R_224_0 h
set_option maxRecDepth 100000 in
theorem t_224 {h : Hp} {r : Int32 × Hp} (e : S_224 h = some r) : CI 8 224 [.ref 84] h (fun x g => x = r.1 ∧ g = r.2) := by
  refine C.of mo_224 (Nat.le_of_ble_eq_true rfl) (fun X hq => ?_)
  exact r_224_0 (Nat.le_refl _) (hq _ _ ⟨_, rfl, rfl, rfl⟩) e
/-! 229 PlayedTruthModel.puts()V -/
noncomputable def R_229_34 (h : Hp) : Option (Int32 × Hp) := some (0, (wr h 84 4 ((h 84 4) + 1)))
theorem r_229_34 {X : GX} {d : Nat} {r : Int32 × Hp} (hd : 1 ≤ d) (hq : RtX X none r.2) {h : Hp} (e : R_229_34 h = some r) : G X d 229 34 [some (.ref 84), none] [] h := by
  unfold R_229_34 at e
  rw [← Option.some.inj e] at hq
  exact k_229_34 hq
noncomputable def R_229_8 (rec_2 : Int32 → Hp → Option (Int32 × Hp)) (v1 : Int32) (h : Hp) : Option (Int32 × Hp) := gd (IA 85 v1 ∧ IA 87 ((65 * (h 84 4)) + v1)) (rec_2 (v1 + 1) ((wr h 87 (Int32.toNatClampNeg ((65 * (h 84 4)) + v1)) (h 85 (Int32.toNatClampNeg v1)))))
theorem r_229_8 {X : GX} {d : Nat} {r : Int32 × Hp} (hd : 1 ≤ d) (hq : RtX X none r.2) {rec_2 : Int32 → Hp → Option (Int32 × Hp)} (hr_2 : ∀ {v1 : Int32} {h : Hp}, rec_2 v1 h = some r → G X d 229 2 [some (.ref 84), some (.int v1)] [] h) {h : Hp} {v1 : Int32} (e : R_229_8 rec_2 v1 h = some r) : G X d 229 8 [some (.ref 84), some (.int v1)] [] h := by
  unfold R_229_8 at e
  have g := gd_s e; clear e; obtain ⟨⟨b0, b1⟩, e⟩ := g
  exact k_229_8 b0 b1 (hr_2 e)
noncomputable def R_229_2 (rec_2 : Int32 → Hp → Option (Int32 × Hp)) (v1 : Int32) (h : Hp) : Option (Int32 × Hp) := if 65 ≤ v1 then R_229_34 h else R_229_8 rec_2 v1 h
theorem r_229_2 {X : GX} {d : Nat} {r : Int32 × Hp} (hd : 1 ≤ d) (hq : RtX X none r.2) {rec_2 : Int32 → Hp → Option (Int32 × Hp)} (hr_2 : ∀ {v1 : Int32} {h : Hp}, rec_2 v1 h = some r → G X d 229 2 [some (.ref 84), some (.int v1)] [] h) {h : Hp} {v1 : Int32} (e : R_229_2 rec_2 v1 h = some r) : G X d 229 2 [some (.ref 84), some (.int v1)] [] h := by
  unfold R_229_2 at e
  refine k_229_2 (fun c => ?_) (fun c => ?_)
  · rw [if_pos c] at e; exact r_229_34 hd hq e
  · rw [if_neg c] at e; exact r_229_8 hd hq hr_2 e
noncomputable def H_229_2 : Nat → Int32 → Hp → Option (Int32 × Hp)
  | 0, _, _ => none
  | n + 1, v1, h => R_229_2 (H_229_2 n) v1 h
theorem h_229_2 {X : GX} {d : Nat} {r : Int32 × Hp} (hd : 1 ≤ d) (hq : RtX X none r.2) {n : Nat} {h : Hp} {v1 : Int32} (e : H_229_2 n v1 h = some r) : G X d 229 2 [some (.ref 84), some (.int v1)] [] h := by
  induction n generalizing v1 h with
  | zero => cases e
  | succ n ih => exact r_229_2 hd hq (fun e => ih e) e
noncomputable def R_229_0 (h : Hp) : Option (Int32 × Hp) := H_229_2 fuL 0 h
theorem r_229_0 {X : GX} {d : Nat} {r : Int32 × Hp} (hd : 1 ≤ d) (hq : RtX X none r.2) {h : Hp} (e : R_229_0 h = some r) : G X d 229 0 [some (.ref 84), none] [] h := by
  unfold R_229_0 at e
  exact k_229_0 (h_229_2 hd hq e)
noncomputable def S_229 (h : Hp) : Option (Int32 × Hp) := R_229_0 h
set_option maxRecDepth 100000 in
theorem t_229 {h : Hp} {r : Int32 × Hp} (e : S_229 h = some r) : CV 1 229 [.ref 84] h (fun g => g = r.2) := by
  refine C.of mo_229 (Nat.le_of_ble_eq_true rfl) (fun X hq => ?_)
  exact r_229_0 (Nat.le_refl _) (hq _ _ ⟨rfl, rfl⟩) e
/-! 230 PlayedTruthModel.restGoes(I)I -/
noncomputable def R_230_33 (v2 : Int32) (h : Hp) : Option (Int32 × Hp) := some (v2, h)
theorem r_230_33 {X : GX} {d : Nat} {r : Int32 × Hp} (hd : 8 ≤ d) (hq : RtX X (some (.int r.1)) r.2) {h : Hp} {v2 : Int32} (e : R_230_33 v2 h = some r) : G X d 230 33 [none, none, some (.int v2), none] [] h := by
  unfold R_230_33 at e
  rw [← Option.some.inj e] at hq
  exact k_230_33 hq
noncomputable def R_230_25 (rec_4 : Int32 → Int32 → Int32 → Hp → Option (Int32 × Hp)) (v1 : Int32) (v3 : Int32) (s1 : Int32) (s0 : Int32) (h : Hp) : Option (Int32 × Hp) := rec_4 v1 (s1 + s0) (v3 + 1) h
theorem r_230_25 {X : GX} {d : Nat} {r : Int32 × Hp} (hd : 8 ≤ d) (hq : RtX X (some (.int r.1)) r.2) {rec_4 : Int32 → Int32 → Int32 → Hp → Option (Int32 × Hp)} (hr_4 : ∀ {v1 : Int32} {v2 : Int32} {v3 : Int32} {h : Hp}, rec_4 v1 v2 v3 h = some r → G X d 230 4 [some (.ref 84), some (.int v1), some (.int v2), some (.int v3)] [] h) {h : Hp} {v1 : Int32} {v3 : Int32} {s1 : Int32} {s0 : Int32} (e : R_230_25 rec_4 v1 v3 s1 s0 h = some r) : G X d 230 25 [some (.ref 84), some (.int v1), none, some (.int v3)] [.int s0, .int s1] h := by
  unfold R_230_25 at e
  exact k_230_25 (hr_4 e)
noncomputable def R_230_22 (rec_4 : Int32 → Int32 → Int32 → Hp → Option (Int32 × Hp)) (v1 : Int32) (v3 : Int32) (s1 : Nat) (s2 : Int32) (s0 : Int32) (h : Hp) : Option (Int32 × Hp) := gd (sh s1 = (1, 9) ∧ s1 = 84) (bndI (S_226 s0 h) (R_230_25 rec_4 v1 v3 s2))
theorem r_230_22 {X : GX} {d : Nat} {r : Int32 × Hp} (hd : 8 ≤ d) (hq : RtX X (some (.int r.1)) r.2) {rec_4 : Int32 → Int32 → Int32 → Hp → Option (Int32 × Hp)} (hr_4 : ∀ {v1 : Int32} {v2 : Int32} {v3 : Int32} {h : Hp}, rec_4 v1 v2 v3 h = some r → G X d 230 4 [some (.ref 84), some (.int v1), some (.int v2), some (.int v3)] [] h) {h : Hp} {v1 : Int32} {v3 : Int32} {s1 : Nat} {s2 : Int32} {s0 : Int32} (e : R_230_22 rec_4 v1 v3 s1 s2 s0 h = some r) : G X d 230 22 [some (.ref 84), some (.int v1), none, some (.int v3)] [.int s0, .ref s1, .int s2] h := by
  unfold R_230_22 at e
  have g := gd_s e; clear e; obtain ⟨⟨o0, q0⟩, e⟩ := g
  subst q0
  obtain ⟨x, h2, e1, e2⟩ := bndI_s e
  refine k_230_22 o0 (by omega) (t_226 e1) ?_
  rintro _ _ ⟨rfl, rfl⟩
  exact r_230_25 hd hq hr_4 e2
noncomputable def R_230_16 (rec_4 : Int32 → Int32 → Int32 → Hp → Option (Int32 × Hp)) (v1 : Int32) (v2 : Int32) (v3 : Int32) (h : Hp) : Option (Int32 × Hp) := bndI (S_225 h) (R_230_22 rec_4 v1 v3 84 v2)
theorem r_230_16 {X : GX} {d : Nat} {r : Int32 × Hp} (hd : 8 ≤ d) (hq : RtX X (some (.int r.1)) r.2) {rec_4 : Int32 → Int32 → Int32 → Hp → Option (Int32 × Hp)} (hr_4 : ∀ {v1 : Int32} {v2 : Int32} {v3 : Int32} {h : Hp}, rec_4 v1 v2 v3 h = some r → G X d 230 4 [some (.ref 84), some (.int v1), some (.int v2), some (.int v3)] [] h) {h : Hp} {v1 : Int32} {v2 : Int32} {v3 : Int32} (e : R_230_16 rec_4 v1 v2 v3 h = some r) : G X d 230 16 [some (.ref 84), some (.int v1), some (.int v2), some (.int v3)] [] h := by
  unfold R_230_16 at e
  obtain ⟨x, h2, e1, e2⟩ := bndI_s e
  refine k_230_16 (by omega) (t_225 e1) ?_
  rintro _ _ ⟨rfl, rfl⟩
  exact r_230_22 hd hq hr_4 e2
noncomputable def R_230_13 (rec_4 : Int32 → Int32 → Int32 → Hp → Option (Int32 × Hp)) (v1 : Int32) (v2 : Int32) (v3 : Int32) (s0 : Int32) (h : Hp) : Option (Int32 × Hp) := if s0 = 0 then R_230_16 rec_4 v1 v2 v3 h else R_230_33 v2 h
theorem r_230_13 {X : GX} {d : Nat} {r : Int32 × Hp} (hd : 8 ≤ d) (hq : RtX X (some (.int r.1)) r.2) {rec_4 : Int32 → Int32 → Int32 → Hp → Option (Int32 × Hp)} (hr_4 : ∀ {v1 : Int32} {v2 : Int32} {v3 : Int32} {h : Hp}, rec_4 v1 v2 v3 h = some r → G X d 230 4 [some (.ref 84), some (.int v1), some (.int v2), some (.int v3)] [] h) {h : Hp} {v1 : Int32} {v2 : Int32} {v3 : Int32} {s0 : Int32} (e : R_230_13 rec_4 v1 v2 v3 s0 h = some r) : G X d 230 13 [some (.ref 84), some (.int v1), some (.int v2), some (.int v3)] [.int s0] h := by
  unfold R_230_13 at e
  refine k_230_13 (fun c => ?_) (fun c => ?_)
  · rw [if_neg c] at e; exact r_230_33 hd hq e
  · rw [if_pos c] at e; exact r_230_16 hd hq hr_4 e
noncomputable def R_230_9 (rec_4 : Int32 → Int32 → Int32 → Hp → Option (Int32 × Hp)) (v1 : Int32) (v2 : Int32) (v3 : Int32) (h : Hp) : Option (Int32 × Hp) := bndI (S_205 h) (R_230_13 rec_4 v1 v2 v3)
theorem r_230_9 {X : GX} {d : Nat} {r : Int32 × Hp} (hd : 8 ≤ d) (hq : RtX X (some (.int r.1)) r.2) {rec_4 : Int32 → Int32 → Int32 → Hp → Option (Int32 × Hp)} (hr_4 : ∀ {v1 : Int32} {v2 : Int32} {v3 : Int32} {h : Hp}, rec_4 v1 v2 v3 h = some r → G X d 230 4 [some (.ref 84), some (.int v1), some (.int v2), some (.int v3)] [] h) {h : Hp} {v1 : Int32} {v2 : Int32} {v3 : Int32} (e : R_230_9 rec_4 v1 v2 v3 h = some r) : G X d 230 9 [some (.ref 84), some (.int v1), some (.int v2), some (.int v3)] [] h := by
  unfold R_230_9 at e
  obtain ⟨x, h2, e1, e2⟩ := bndI_s e
  refine k_230_9 (by omega) (t_205 e1) ?_
  rintro _ _ ⟨rfl, rfl⟩
  exact r_230_13 hd hq hr_4 e2
noncomputable def R_230_4 (rec_4 : Int32 → Int32 → Int32 → Hp → Option (Int32 × Hp)) (v1 : Int32) (v2 : Int32) (v3 : Int32) (h : Hp) : Option (Int32 × Hp) := if v1 ≤ v3 then R_230_33 v2 h else R_230_9 rec_4 v1 v2 v3 h
theorem r_230_4 {X : GX} {d : Nat} {r : Int32 × Hp} (hd : 8 ≤ d) (hq : RtX X (some (.int r.1)) r.2) {rec_4 : Int32 → Int32 → Int32 → Hp → Option (Int32 × Hp)} (hr_4 : ∀ {v1 : Int32} {v2 : Int32} {v3 : Int32} {h : Hp}, rec_4 v1 v2 v3 h = some r → G X d 230 4 [some (.ref 84), some (.int v1), some (.int v2), some (.int v3)] [] h) {h : Hp} {v1 : Int32} {v2 : Int32} {v3 : Int32} (e : R_230_4 rec_4 v1 v2 v3 h = some r) : G X d 230 4 [some (.ref 84), some (.int v1), some (.int v2), some (.int v3)] [] h := by
  unfold R_230_4 at e
  refine k_230_4 (fun c => ?_) (fun c => ?_)
  · rw [if_pos c] at e; exact r_230_33 hd hq e
  · rw [if_neg c] at e; exact r_230_9 hd hq hr_4 e
noncomputable def H_230_4 : Nat → Int32 → Int32 → Int32 → Hp → Option (Int32 × Hp)
  | 0, _, _, _, _ => none
  | n + 1, v1, v2, v3, h => R_230_4 (H_230_4 n) v1 v2 v3 h
theorem h_230_4 {X : GX} {d : Nat} {r : Int32 × Hp} (hd : 8 ≤ d) (hq : RtX X (some (.int r.1)) r.2) {n : Nat} {h : Hp} {v1 : Int32} {v2 : Int32} {v3 : Int32} (e : H_230_4 n v1 v2 v3 h = some r) : G X d 230 4 [some (.ref 84), some (.int v1), some (.int v2), some (.int v3)] [] h := by
  induction n generalizing v1 v2 v3 h with
  | zero => cases e
  | succ n ih => exact r_230_4 hd hq (fun e => ih e) e
noncomputable def R_230_0 (v1 : Int32) (h : Hp) : Option (Int32 × Hp) := H_230_4 fuL v1 0 0 h
theorem r_230_0 {X : GX} {d : Nat} {r : Int32 × Hp} (hd : 8 ≤ d) (hq : RtX X (some (.int r.1)) r.2) {h : Hp} {v1 : Int32} (e : R_230_0 v1 h = some r) : G X d 230 0 [some (.ref 84), some (.int v1), none, none] [] h := by
  unfold R_230_0 at e
  exact k_230_0 (h_230_4 hd hq e)
noncomputable def S_230 (v1 : Int32) (h : Hp) : Option (Int32 × Hp) := R_230_0 v1 h
set_option maxRecDepth 100000 in
theorem t_230 {v1 : Int32} {h : Hp} {r : Int32 × Hp} (e : S_230 v1 h = some r) : CI 8 230 [.ref 84, .int v1] h (fun x g => x = r.1 ∧ g = r.2) := by
  refine C.of mo_230 (Nat.le_of_ble_eq_true rfl) (fun X hq => ?_)
  exact r_230_0 (Nat.le_refl _) (hq _ _ ⟨_, rfl, rfl, rfl⟩) e
/-! 232 PlayedTruthModel.back()V -/
noncomputable def R_232_36 (h : Hp) : Option (Int32 × Hp) := some (0, h)
theorem r_232_36 {X : GX} {d : Nat} {r : Int32 × Hp} (hd : 1 ≤ d) (hq : RtX X none r.2) {h : Hp} (e : R_232_36 h = some r) : G X d 232 36 [none, none] [] h := by
  unfold R_232_36 at e
  rw [← Option.some.inj e] at hq
  exact k_232_36 hq
noncomputable def R_232_8 (rec_2 : Int32 → Hp → Option (Int32 × Hp)) (v1 : Int32) (h : Hp) : Option (Int32 × Hp) := gd (IA 87 ((65 * ((h 84 4) - 1)) + v1) ∧ IA 85 v1) (rec_2 (v1 + 1) ((wr h 85 (Int32.toNatClampNeg v1) (h 87 (Int32.toNatClampNeg ((65 * ((h 84 4) - 1)) + v1))))))
theorem r_232_8 {X : GX} {d : Nat} {r : Int32 × Hp} (hd : 1 ≤ d) (hq : RtX X none r.2) {rec_2 : Int32 → Hp → Option (Int32 × Hp)} (hr_2 : ∀ {v1 : Int32} {h : Hp}, rec_2 v1 h = some r → G X d 232 2 [some (.ref 84), some (.int v1)] [] h) {h : Hp} {v1 : Int32} (e : R_232_8 rec_2 v1 h = some r) : G X d 232 8 [some (.ref 84), some (.int v1)] [] h := by
  unfold R_232_8 at e
  have g := gd_s e; clear e; obtain ⟨⟨b0, b1⟩, e⟩ := g
  exact k_232_8 b0 b1 (hr_2 e)
noncomputable def R_232_2 (rec_2 : Int32 → Hp → Option (Int32 × Hp)) (v1 : Int32) (h : Hp) : Option (Int32 × Hp) := if 65 ≤ v1 then R_232_36 h else R_232_8 rec_2 v1 h
theorem r_232_2 {X : GX} {d : Nat} {r : Int32 × Hp} (hd : 1 ≤ d) (hq : RtX X none r.2) {rec_2 : Int32 → Hp → Option (Int32 × Hp)} (hr_2 : ∀ {v1 : Int32} {h : Hp}, rec_2 v1 h = some r → G X d 232 2 [some (.ref 84), some (.int v1)] [] h) {h : Hp} {v1 : Int32} (e : R_232_2 rec_2 v1 h = some r) : G X d 232 2 [some (.ref 84), some (.int v1)] [] h := by
  unfold R_232_2 at e
  refine k_232_2 (fun c => ?_) (fun c => ?_)
  · rw [if_pos c] at e; exact r_232_36 hd hq e
  · rw [if_neg c] at e; exact r_232_8 hd hq hr_2 e
noncomputable def H_232_2 : Nat → Int32 → Hp → Option (Int32 × Hp)
  | 0, _, _ => none
  | n + 1, v1, h => R_232_2 (H_232_2 n) v1 h
theorem h_232_2 {X : GX} {d : Nat} {r : Int32 × Hp} (hd : 1 ≤ d) (hq : RtX X none r.2) {n : Nat} {h : Hp} {v1 : Int32} (e : H_232_2 n v1 h = some r) : G X d 232 2 [some (.ref 84), some (.int v1)] [] h := by
  induction n generalizing v1 h with
  | zero => cases e
  | succ n ih => exact r_232_2 hd hq (fun e => ih e) e
noncomputable def R_232_0 (h : Hp) : Option (Int32 × Hp) := H_232_2 fuL 0 h
theorem r_232_0 {X : GX} {d : Nat} {r : Int32 × Hp} (hd : 1 ≤ d) (hq : RtX X none r.2) {h : Hp} (e : R_232_0 h = some r) : G X d 232 0 [some (.ref 84), none] [] h := by
  unfold R_232_0 at e
  exact k_232_0 (h_232_2 hd hq e)
noncomputable def S_232 (h : Hp) : Option (Int32 × Hp) := R_232_0 h
set_option maxRecDepth 100000 in
theorem t_232 {h : Hp} {r : Int32 × Hp} (e : S_232 h = some r) : CV 1 232 [.ref 84] h (fun g => g = r.2) := by
  refine C.of mo_232 (Nat.le_of_ble_eq_true rfl) (fun X hq => ?_)
  exact r_232_0 (Nat.le_refl _) (hq _ _ ⟨rfl, rfl⟩) e
/-! 231 PlayedTruthModel.takes()V -/
noncomputable def R_231_4 (h : Hp) : Option (Int32 × Hp) := some (0, (wr h 84 4 ((h 84 4) - 1)))
theorem r_231_4 {X : GX} {d : Nat} {r : Int32 × Hp} (hd : 2 ≤ d) (hq : RtX X none r.2) {h : Hp} (e : R_231_4 h = some r) : G X d 231 4 [some (.ref 84)] [] h := by
  unfold R_231_4 at e
  rw [← Option.some.inj e] at hq
  exact k_231_4 hq
noncomputable def R_231_0 (h : Hp) : Option (Int32 × Hp) := bndV (S_232 h) (R_231_4)
theorem r_231_0 {X : GX} {d : Nat} {r : Int32 × Hp} (hd : 2 ≤ d) (hq : RtX X none r.2) {h : Hp} (e : R_231_0 h = some r) : G X d 231 0 [some (.ref 84)] [] h := by
  unfold R_231_0 at e
  obtain ⟨x, h2, e1, e2⟩ := bndV_s e
  refine k_231_0 (by omega) (t_232 e1) ?_
  rintro _ rfl
  exact r_231_4 hd hq e2
noncomputable def S_231 (h : Hp) : Option (Int32 × Hp) := R_231_0 h
set_option maxRecDepth 100000 in
theorem t_231 {h : Hp} {r : Int32 × Hp} (e : S_231 h = some r) : CV 2 231 [.ref 84] h (fun g => g = r.2) := by
  refine C.of mo_231 (Nat.le_of_ble_eq_true rfl) (fun X hq => ?_)
  exact r_231_0 (Nat.le_refl _) (hq _ _ ⟨rfl, rfl⟩) e
/-! 228 PlayedTruthModel.on(I)I -/
noncomputable def R_228_28 (v2 : Int32) (h : Hp) : Option (Int32 × Hp) := some (v2, h)
theorem r_228_28 {X : GX} {d : Nat} {r : Int32 × Hp} (hd : 9 ≤ d) (hq : RtX X (some (.int r.1)) r.2) {h : Hp} {v2 : Int32} (e : R_228_28 v2 h = some r) : G X d 228 28 [none, none, some (.int v2)] [] h := by
  unfold R_228_28 at e
  rw [← Option.some.inj e] at hq
  exact k_228_28 hq
noncomputable def R_228_23 (s0 : Int32) (h : Hp) : Option (Int32 × Hp) := bndV (S_231 h) (R_228_28 s0)
theorem r_228_23 {X : GX} {d : Nat} {r : Int32 × Hp} (hd : 9 ≤ d) (hq : RtX X (some (.int r.1)) r.2) {h : Hp} {s0 : Int32} (e : R_228_23 s0 h = some r) : G X d 228 23 [some (.ref 84), none, none] [.int s0] h := by
  unfold R_228_23 at e
  obtain ⟨x, h2, e1, e2⟩ := bndV_s e
  refine k_228_23 (by omega) (t_231 e1) ?_
  rintro _ rfl
  exact r_228_28 hd hq e2
noncomputable def R_228_18 (v1 : Int32) (h : Hp) : Option (Int32 × Hp) := bndI (S_230 v1 h) (R_228_23)
theorem r_228_18 {X : GX} {d : Nat} {r : Int32 × Hp} (hd : 9 ≤ d) (hq : RtX X (some (.int r.1)) r.2) {h : Hp} {v1 : Int32} (e : R_228_18 v1 h = some r) : G X d 228 18 [some (.ref 84), some (.int v1), none] [] h := by
  unfold R_228_18 at e
  obtain ⟨x, h2, e1, e2⟩ := bndI_s e
  refine k_228_18 (by omega) (t_230 e1) ?_
  rintro _ _ ⟨rfl, rfl⟩
  exact r_228_23 hd hq e2
noncomputable def R_228_14 (v1 : Int32) (h : Hp) : Option (Int32 × Hp) := bndV (S_229 h) (R_228_18 v1)
theorem r_228_14 {X : GX} {d : Nat} {r : Int32 × Hp} (hd : 9 ≤ d) (hq : RtX X (some (.int r.1)) r.2) {h : Hp} {v1 : Int32} (e : R_228_14 v1 h = some r) : G X d 228 14 [some (.ref 84), some (.int v1), none] [] h := by
  unfold R_228_14 at e
  obtain ⟨x, h2, e1, e2⟩ := bndV_s e
  refine k_228_14 (by omega) (t_229 e1) ?_
  rintro _ rfl
  exact r_228_18 hd hq e2
noncomputable def R_228_12 (h : Hp) : Option (Int32 × Hp) := some (((-1)), h)
theorem r_228_12 {X : GX} {d : Nat} {r : Int32 × Hp} (hd : 9 ≤ d) (hq : RtX X (some (.int r.1)) r.2) {h : Hp} (e : R_228_12 h = some r) : G X d 228 12 [none, none, none] [] h := by
  unfold R_228_12 at e
  rw [← Option.some.inj e] at hq
  exact k_228_12 hq
noncomputable def R_228_9 (v1 : Int32) (s0 : Int32) (h : Hp) : Option (Int32 × Hp) := if s0 = 0 then R_228_12 h else R_228_14 v1 h
theorem r_228_9 {X : GX} {d : Nat} {r : Int32 × Hp} (hd : 9 ≤ d) (hq : RtX X (some (.int r.1)) r.2) {h : Hp} {v1 : Int32} {s0 : Int32} (e : R_228_9 v1 s0 h = some r) : G X d 228 9 [some (.ref 84), some (.int v1), none] [.int s0] h := by
  unfold R_228_9 at e
  refine k_228_9 (fun c => ?_) (fun c => ?_)
  · rw [if_neg c] at e; exact r_228_14 hd hq e
  · rw [if_pos c] at e; exact r_228_12 hd hq e
noncomputable def R_228_0 (v1 : Int32) (h : Hp) : Option (Int32 × Hp) := bndI (S_177 (Int32.toInt64 v1) 0 16 h) (R_228_9 v1)
theorem r_228_0 {X : GX} {d : Nat} {r : Int32 × Hp} (hd : 9 ≤ d) (hq : RtX X (some (.int r.1)) r.2) {h : Hp} {v1 : Int32} (e : R_228_0 v1 h = some r) : G X d 228 0 [some (.ref 84), some (.int v1), none] [] h := by
  unfold R_228_0 at e
  obtain ⟨x, h2, e1, e2⟩ := bndI_s e
  refine k_228_0 (by omega) (t_177 e1) ?_
  rintro _ _ ⟨rfl, rfl⟩
  exact r_228_9 hd hq e2
noncomputable def S_228 (v1 : Int32) (h : Hp) : Option (Int32 × Hp) := R_228_0 v1 h
set_option maxRecDepth 100000 in
theorem t_228 {v1 : Int32} {h : Hp} {r : Int32 × Hp} (e : S_228 v1 h = some r) : CI 9 228 [.ref 84, .int v1] h (fun x g => x = r.1 ∧ g = r.2) := by
  refine C.of mo_228 (Nat.le_of_ble_eq_true rfl) (fun X hq => ?_)
  exact r_228_0 (Nat.le_refl _) (hq _ _ ⟨_, rfl, rfl, rfl⟩) e
/-! 233 PlayedTruthModel.when(I)I -/
noncomputable def R_233_83 (v2 : Int32) (h : Hp) : Option (Int32 × Hp) := some (v2, h)
theorem r_233_83 {X : GX} {d : Nat} {r : Int32 × Hp} (hd : 8 ≤ d) (hq : RtX X (some (.int r.1)) r.2) {h : Hp} {v2 : Int32} (e : R_233_83 v2 h = some r) : G X d 233 83 [none, none, some (.int v2)] [] h := by
  unfold R_233_83 at e
  rw [← Option.some.inj e] at hq
  exact k_233_83 hq
noncomputable def R_233_76 (h : Hp) : Option (Int32 × Hp) := bndV (S_231 h) (R_233_83 ((-3)))
theorem r_233_76 {X : GX} {d : Nat} {r : Int32 × Hp} (hd : 8 ≤ d) (hq : RtX X (some (.int r.1)) r.2) {h : Hp} (e : R_233_76 h = some r) : G X d 233 76 [some (.ref 84), none, none] [] h := by
  unfold R_233_76 at e
  obtain ⟨x, h2, e1, e2⟩ := bndV_s e
  refine k_233_76 (by omega) (t_231 e1) ?_
  rintro _ rfl
  exact r_233_83 hd hq e2
noncomputable def R_233_65 (h : Hp) : Option (Int32 × Hp) := gd (IA 85 1) (bndV (S_231 h) (R_233_83 ((h 85 (Int32.toNatClampNeg 1)) - 1)))
theorem r_233_65 {X : GX} {d : Nat} {r : Int32 × Hp} (hd : 8 ≤ d) (hq : RtX X (some (.int r.1)) r.2) {h : Hp} (e : R_233_65 h = some r) : G X d 233 65 [some (.ref 84), none, none] [] h := by
  unfold R_233_65 at e
  have g := gd_s e; clear e; obtain ⟨b0, e⟩ := g
  obtain ⟨x, h2, e1, e2⟩ := bndV_s e
  refine k_233_65 b0 (by omega) (t_231 e1) ?_
  rintro _ rfl
  exact r_233_83 hd hq e2
noncomputable def R_233_61 (s0 : Int32) (h : Hp) : Option (Int32 × Hp) := if s0 = 1 then R_233_65 h else R_233_76 h
theorem r_233_61 {X : GX} {d : Nat} {r : Int32 × Hp} (hd : 8 ≤ d) (hq : RtX X (some (.int r.1)) r.2) {h : Hp} {s0 : Int32} (e : R_233_61 s0 h = some r) : G X d 233 61 [some (.ref 84), none, none] [.int s0] h := by
  unfold R_233_61 at e
  refine k_233_61 (fun c => ?_) (fun c => ?_)
  · rw [if_neg c] at e; exact r_233_76 hd hq e
  · rw [if_pos c] at e; exact r_233_65 hd hq e
noncomputable def R_233_55 (v1 : Int32) (h : Hp) : Option (Int32 × Hp) := bndI (S_182 v1 4 h) (R_233_61)
theorem r_233_55 {X : GX} {d : Nat} {r : Int32 × Hp} (hd : 8 ≤ d) (hq : RtX X (some (.int r.1)) r.2) {h : Hp} {v1 : Int32} (e : R_233_55 v1 h = some r) : G X d 233 55 [some (.ref 84), some (.int v1), none] [] h := by
  unfold R_233_55 at e
  obtain ⟨x, h2, e1, e2⟩ := bndI_s e
  refine k_233_55 (by omega) (t_182 e1) ?_
  rintro _ _ ⟨rfl, rfl⟩
  exact r_233_61 hd hq e2
noncomputable def R_233_51 (rec_27 : Int32 → Hp → Option (Int32 × Hp)) (v1 : Int32) (s0 : Int32) (h : Hp) : Option (Int32 × Hp) := rec_27 v1 h
theorem r_233_51 {X : GX} {d : Nat} {r : Int32 × Hp} (hd : 8 ≤ d) (hq : RtX X (some (.int r.1)) r.2) {rec_27 : Int32 → Hp → Option (Int32 × Hp)} (hr_27 : ∀ {v1 : Int32} {h : Hp}, rec_27 v1 h = some r → G X d 233 27 [some (.ref 84), some (.int v1), none] [] h) {h : Hp} {v1 : Int32} {s0 : Int32} (e : R_233_51 rec_27 v1 s0 h = some r) : G X d 233 51 [some (.ref 84), some (.int v1), none] [.int s0] h := by
  unfold R_233_51 at e
  exact k_233_51 (hr_27 e)
noncomputable def R_233_48 (rec_27 : Int32 → Hp → Option (Int32 × Hp)) (v1 : Int32) (s1 : Nat) (s0 : Int32) (h : Hp) : Option (Int32 × Hp) := gd (sh s1 = (1, 9) ∧ s1 = 84) (bndI (S_226 s0 h) (R_233_51 rec_27 v1))
theorem r_233_48 {X : GX} {d : Nat} {r : Int32 × Hp} (hd : 8 ≤ d) (hq : RtX X (some (.int r.1)) r.2) {rec_27 : Int32 → Hp → Option (Int32 × Hp)} (hr_27 : ∀ {v1 : Int32} {h : Hp}, rec_27 v1 h = some r → G X d 233 27 [some (.ref 84), some (.int v1), none] [] h) {h : Hp} {v1 : Int32} {s1 : Nat} {s0 : Int32} (e : R_233_48 rec_27 v1 s1 s0 h = some r) : G X d 233 48 [some (.ref 84), some (.int v1), none] [.int s0, .ref s1] h := by
  unfold R_233_48 at e
  have g := gd_s e; clear e; obtain ⟨⟨o0, q0⟩, e⟩ := g
  subst q0
  obtain ⟨x, h2, e1, e2⟩ := bndI_s e
  refine k_233_48 o0 (by omega) (t_226 e1) ?_
  rintro _ _ ⟨rfl, rfl⟩
  exact r_233_51 hd hq hr_27 e2
noncomputable def R_233_43 (rec_27 : Int32 → Hp → Option (Int32 × Hp)) (v1 : Int32) (h : Hp) : Option (Int32 × Hp) := bndI (S_225 h) (R_233_48 rec_27 v1 84)
theorem r_233_43 {X : GX} {d : Nat} {r : Int32 × Hp} (hd : 8 ≤ d) (hq : RtX X (some (.int r.1)) r.2) {rec_27 : Int32 → Hp → Option (Int32 × Hp)} (hr_27 : ∀ {v1 : Int32} {h : Hp}, rec_27 v1 h = some r → G X d 233 27 [some (.ref 84), some (.int v1), none] [] h) {h : Hp} {v1 : Int32} (e : R_233_43 rec_27 v1 h = some r) : G X d 233 43 [some (.ref 84), some (.int v1), none] [] h := by
  unfold R_233_43 at e
  obtain ⟨x, h2, e1, e2⟩ := bndI_s e
  refine k_233_43 (by omega) (t_225 e1) ?_
  rintro _ _ ⟨rfl, rfl⟩
  exact r_233_48 hd hq hr_27 e2
noncomputable def R_233_40 (rec_27 : Int32 → Hp → Option (Int32 × Hp)) (v1 : Int32) (s0 : Int32) (h : Hp) : Option (Int32 × Hp) := if s0 = 0 then R_233_43 rec_27 v1 h else R_233_55 v1 h
theorem r_233_40 {X : GX} {d : Nat} {r : Int32 × Hp} (hd : 8 ≤ d) (hq : RtX X (some (.int r.1)) r.2) {rec_27 : Int32 → Hp → Option (Int32 × Hp)} (hr_27 : ∀ {v1 : Int32} {h : Hp}, rec_27 v1 h = some r → G X d 233 27 [some (.ref 84), some (.int v1), none] [] h) {h : Hp} {v1 : Int32} {s0 : Int32} (e : R_233_40 rec_27 v1 s0 h = some r) : G X d 233 40 [some (.ref 84), some (.int v1), none] [.int s0] h := by
  unfold R_233_40 at e
  refine k_233_40 (fun c => ?_) (fun c => ?_)
  · rw [if_neg c] at e; exact r_233_55 hd hq e
  · rw [if_pos c] at e; exact r_233_43 hd hq hr_27 e
noncomputable def R_233_34 (rec_27 : Int32 → Hp → Option (Int32 × Hp)) (v1 : Int32) (h : Hp) : Option (Int32 × Hp) := bndI (S_182 v1 4 h) (R_233_40 rec_27 v1)
theorem r_233_34 {X : GX} {d : Nat} {r : Int32 × Hp} (hd : 8 ≤ d) (hq : RtX X (some (.int r.1)) r.2) {rec_27 : Int32 → Hp → Option (Int32 × Hp)} (hr_27 : ∀ {v1 : Int32} {h : Hp}, rec_27 v1 h = some r → G X d 233 27 [some (.ref 84), some (.int v1), none] [] h) {h : Hp} {v1 : Int32} (e : R_233_34 rec_27 v1 h = some r) : G X d 233 34 [some (.ref 84), some (.int v1), none] [] h := by
  unfold R_233_34 at e
  obtain ⟨x, h2, e1, e2⟩ := bndI_s e
  refine k_233_34 (by omega) (t_182 e1) ?_
  rintro _ _ ⟨rfl, rfl⟩
  exact r_233_40 hd hq hr_27 e2
noncomputable def R_233_31 (rec_27 : Int32 → Hp → Option (Int32 × Hp)) (v1 : Int32) (s0 : Int32) (h : Hp) : Option (Int32 × Hp) := if s0 = 0 then R_233_34 rec_27 v1 h else R_233_55 v1 h
theorem r_233_31 {X : GX} {d : Nat} {r : Int32 × Hp} (hd : 8 ≤ d) (hq : RtX X (some (.int r.1)) r.2) {rec_27 : Int32 → Hp → Option (Int32 × Hp)} (hr_27 : ∀ {v1 : Int32} {h : Hp}, rec_27 v1 h = some r → G X d 233 27 [some (.ref 84), some (.int v1), none] [] h) {h : Hp} {v1 : Int32} {s0 : Int32} (e : R_233_31 rec_27 v1 s0 h = some r) : G X d 233 31 [some (.ref 84), some (.int v1), none] [.int s0] h := by
  unfold R_233_31 at e
  refine k_233_31 (fun c => ?_) (fun c => ?_)
  · rw [if_neg c] at e; exact r_233_55 hd hq e
  · rw [if_pos c] at e; exact r_233_34 hd hq hr_27 e
noncomputable def R_233_27 (rec_27 : Int32 → Hp → Option (Int32 × Hp)) (v1 : Int32) (h : Hp) : Option (Int32 × Hp) := bndI (S_205 h) (R_233_31 rec_27 v1)
theorem r_233_27 {X : GX} {d : Nat} {r : Int32 × Hp} (hd : 8 ≤ d) (hq : RtX X (some (.int r.1)) r.2) {rec_27 : Int32 → Hp → Option (Int32 × Hp)} (hr_27 : ∀ {v1 : Int32} {h : Hp}, rec_27 v1 h = some r → G X d 233 27 [some (.ref 84), some (.int v1), none] [] h) {h : Hp} {v1 : Int32} (e : R_233_27 rec_27 v1 h = some r) : G X d 233 27 [some (.ref 84), some (.int v1), none] [] h := by
  unfold R_233_27 at e
  obtain ⟨x, h2, e1, e2⟩ := bndI_s e
  refine k_233_27 (by omega) (t_205 e1) ?_
  rintro _ _ ⟨rfl, rfl⟩
  exact r_233_31 hd hq hr_27 e2
noncomputable def H_233_27 : Nat → Int32 → Hp → Option (Int32 × Hp)
  | 0, _, _ => none
  | n + 1, v1, h => R_233_27 (H_233_27 n) v1 h
theorem h_233_27 {X : GX} {d : Nat} {r : Int32 × Hp} (hd : 8 ≤ d) (hq : RtX X (some (.int r.1)) r.2) {n : Nat} {h : Hp} {v1 : Int32} (e : H_233_27 n v1 h = some r) : G X d 233 27 [some (.ref 84), some (.int v1), none] [] h := by
  induction n generalizing v1 h with
  | zero => cases e
  | succ n ih => exact r_233_27 hd hq (fun e => ih e) e
noncomputable def R_233_23 (v1 : Int32) (h : Hp) : Option (Int32 × Hp) := bndV (S_229 h) (H_233_27 fuL v1)
theorem r_233_23 {X : GX} {d : Nat} {r : Int32 × Hp} (hd : 8 ≤ d) (hq : RtX X (some (.int r.1)) r.2) {h : Hp} {v1 : Int32} (e : R_233_23 v1 h = some r) : G X d 233 23 [some (.ref 84), some (.int v1), none] [] h := by
  unfold R_233_23 at e
  obtain ⟨x, h2, e1, e2⟩ := bndV_s e
  refine k_233_23 (by omega) (t_229 e1) ?_
  rintro _ rfl
  exact h_233_27 hd hq e2
noncomputable def R_233_20 (h : Hp) : Option (Int32 × Hp) := some (((-3)), h)
theorem r_233_20 {X : GX} {d : Nat} {r : Int32 × Hp} (hd : 8 ≤ d) (hq : RtX X (some (.int r.1)) r.2) {h : Hp} (e : R_233_20 h = some r) : G X d 233 20 [none, none, none] [] h := by
  unfold R_233_20 at e
  rw [← Option.some.inj e] at hq
  exact k_233_20 hq
noncomputable def R_233_16 (v1 : Int32) (s0 : Int32) (h : Hp) : Option (Int32 × Hp) := if s0 = 1 then R_233_20 h else R_233_23 v1 h
theorem r_233_16 {X : GX} {d : Nat} {r : Int32 × Hp} (hd : 8 ≤ d) (hq : RtX X (some (.int r.1)) r.2) {h : Hp} {v1 : Int32} {s0 : Int32} (e : R_233_16 v1 s0 h = some r) : G X d 233 16 [some (.ref 84), some (.int v1), none] [.int s0] h := by
  unfold R_233_16 at e
  refine k_233_16 (fun c => ?_) (fun c => ?_)
  · rw [if_neg c] at e; exact r_233_23 hd hq e
  · rw [if_pos c] at e; exact r_233_20 hd hq e
noncomputable def R_233_10 (v1 : Int32) (h : Hp) : Option (Int32 × Hp) := bndI (S_182 v1 4 h) (R_233_16 v1)
theorem r_233_10 {X : GX} {d : Nat} {r : Int32 × Hp} (hd : 8 ≤ d) (hq : RtX X (some (.int r.1)) r.2) {h : Hp} {v1 : Int32} (e : R_233_10 v1 h = some r) : G X d 233 10 [some (.ref 84), some (.int v1), none] [] h := by
  unfold R_233_10 at e
  obtain ⟨x, h2, e1, e2⟩ := bndI_s e
  refine k_233_10 (by omega) (t_182 e1) ?_
  rintro _ _ ⟨rfl, rfl⟩
  exact r_233_16 hd hq e2
noncomputable def R_233_8 (h : Hp) : Option (Int32 × Hp) := some (((-1)), h)
theorem r_233_8 {X : GX} {d : Nat} {r : Int32 × Hp} (hd : 8 ≤ d) (hq : RtX X (some (.int r.1)) r.2) {h : Hp} (e : R_233_8 h = some r) : G X d 233 8 [none, none, none] [] h := by
  unfold R_233_8 at e
  rw [← Option.some.inj e] at hq
  exact k_233_8 hq
noncomputable def R_233_5 (v1 : Int32) (s0 : Int32) (h : Hp) : Option (Int32 × Hp) := if s0 = 0 then R_233_8 h else R_233_10 v1 h
theorem r_233_5 {X : GX} {d : Nat} {r : Int32 × Hp} (hd : 8 ≤ d) (hq : RtX X (some (.int r.1)) r.2) {h : Hp} {v1 : Int32} {s0 : Int32} (e : R_233_5 v1 s0 h = some r) : G X d 233 5 [some (.ref 84), some (.int v1), none] [.int s0] h := by
  unfold R_233_5 at e
  refine k_233_5 (fun c => ?_) (fun c => ?_)
  · rw [if_neg c] at e; exact r_233_10 hd hq e
  · rw [if_pos c] at e; exact r_233_8 hd hq e
noncomputable def R_233_0 (v1 : Int32) (h : Hp) : Option (Int32 × Hp) := bndI (S_180 v1 h) (R_233_5 v1)
theorem r_233_0 {X : GX} {d : Nat} {r : Int32 × Hp} (hd : 8 ≤ d) (hq : RtX X (some (.int r.1)) r.2) {h : Hp} {v1 : Int32} (e : R_233_0 v1 h = some r) : G X d 233 0 [some (.ref 84), some (.int v1), none] [] h := by
  unfold R_233_0 at e
  obtain ⟨x, h2, e1, e2⟩ := bndI_s e
  refine k_233_0 (by omega) (t_180 e1) ?_
  rintro _ _ ⟨rfl, rfl⟩
  exact r_233_5 hd hq e2
noncomputable def S_233 (v1 : Int32) (h : Hp) : Option (Int32 × Hp) := R_233_0 v1 h
set_option maxRecDepth 100000 in
theorem t_233 {v1 : Int32} {h : Hp} {r : Int32 × Hp} (e : S_233 v1 h = some r) : CI 8 233 [.ref 84, .int v1] h (fun x g => x = r.1 ∧ g = r.2) := by
  refine C.of mo_233 (Nat.le_of_ble_eq_true rfl) (fun X hq => ?_)
  exact r_233_0 (Nat.le_refl _) (hq _ _ ⟨_, rfl, rfl, rfl⟩) e
/-! 235 PlayedTruthModel.bestOf(III)I -/
noncomputable def R_235_64 (v4 : Int32) (h : Hp) : Option (Int32 × Hp) := some (v4, h)
theorem r_235_64 {X : GX} {d : Nat} {r : Int32 × Hp} (hd : 9 ≤ d) (hq : RtX X (some (.int r.1)) r.2) {h : Hp} {v4 : Int32} (e : R_235_64 v4 h = some r) : G X d 235 64 [none, none, none, none, some (.int v4), none, none, none] [] h := by
  unfold R_235_64 at e
  rw [← Option.some.inj e] at hq
  exact k_235_64 hq
noncomputable def R_235_60 (v4 : Int32) (h : Hp) : Option (Int32 × Hp) := bndV (S_231 h) (R_235_64 v4)
theorem r_235_60 {X : GX} {d : Nat} {r : Int32 × Hp} (hd : 9 ≤ d) (hq : RtX X (some (.int r.1)) r.2) {h : Hp} {v4 : Int32} (e : R_235_60 v4 h = some r) : G X d 235 60 [some (.ref 84), none, none, none, some (.int v4), none, none, none] [] h := by
  unfold R_235_60 at e
  obtain ⟨x, h2, e1, e2⟩ := bndV_s e
  refine k_235_60 (by omega) (t_231 e1) ?_
  rintro _ rfl
  exact r_235_64 hd hq e2
noncomputable def R_235_54 (rec_13 : Int32 → Int32 → Int32 → Int32 → Int32 → Int32 → Hp → Option (Int32 × Hp)) (v1 : Int32) (v2 : Int32) (v3 : Int32) (v4 : Int32) (v5 : Int32) (v6 : Int32) (h : Hp) : Option (Int32 × Hp) := rec_13 v1 v2 v3 v4 v5 (v6 + 1) h
theorem r_235_54 {X : GX} {d : Nat} {r : Int32 × Hp} (hd : 9 ≤ d) (hq : RtX X (some (.int r.1)) r.2) {rec_13 : Int32 → Int32 → Int32 → Int32 → Int32 → Int32 → Hp → Option (Int32 × Hp)} (hr_13 : ∀ {v1 : Int32} {v2 : Int32} {v3 : Int32} {v4 : Int32} {v5 : Int32} {v6 : Int32} {h : Hp}, rec_13 v1 v2 v3 v4 v5 v6 h = some r → G X d 235 13 [some (.ref 84), some (.int v1), some (.int v2), some (.int v3), some (.int v4), some (.int v5), some (.int v6), none] [] h) {h : Hp} {v1 : Int32} {v2 : Int32} {v3 : Int32} {v4 : Int32} {v5 : Int32} {v6 : Int32} (e : R_235_54 rec_13 v1 v2 v3 v4 v5 v6 h = some r) : G X d 235 54 [some (.ref 84), some (.int v1), some (.int v2), some (.int v3), some (.int v4), some (.int v5), some (.int v6), none] [] h := by
  unfold R_235_54 at e
  exact k_235_54 (hr_13 e)
noncomputable def R_235_46 (rec_13 : Int32 → Int32 → Int32 → Int32 → Int32 → Int32 → Hp → Option (Int32 × Hp)) (v1 : Int32) (v2 : Int32) (v3 : Int32) (v6 : Int32) (v7 : Int32) (h : Hp) : Option (Int32 × Hp) := rec_13 v1 v2 v3 v6 v7 (v6 + 1) h
theorem r_235_46 {X : GX} {d : Nat} {r : Int32 × Hp} (hd : 9 ≤ d) (hq : RtX X (some (.int r.1)) r.2) {rec_13 : Int32 → Int32 → Int32 → Int32 → Int32 → Int32 → Hp → Option (Int32 × Hp)} (hr_13 : ∀ {v1 : Int32} {v2 : Int32} {v3 : Int32} {v4 : Int32} {v5 : Int32} {v6 : Int32} {h : Hp}, rec_13 v1 v2 v3 v4 v5 v6 h = some r → G X d 235 13 [some (.ref 84), some (.int v1), some (.int v2), some (.int v3), some (.int v4), some (.int v5), some (.int v6), none] [] h) {h : Hp} {v1 : Int32} {v2 : Int32} {v3 : Int32} {v6 : Int32} {v7 : Int32} (e : R_235_46 rec_13 v1 v2 v3 v6 v7 h = some r) : G X d 235 46 [some (.ref 84), some (.int v1), some (.int v2), some (.int v3), none, none, some (.int v6), some (.int v7)] [] h := by
  unfold R_235_46 at e
  exact k_235_46 (hr_13 e)
noncomputable def R_235_39 (rec_13 : Int32 → Int32 → Int32 → Int32 → Int32 → Int32 → Hp → Option (Int32 × Hp)) (v1 : Int32) (v2 : Int32) (v3 : Int32) (v4 : Int32) (v5 : Int32) (v6 : Int32) (v7 : Int32) (h : Hp) : Option (Int32 × Hp) := if v7 ≤ v5 then R_235_54 rec_13 v1 v2 v3 v4 v5 v6 h else R_235_46 rec_13 v1 v2 v3 v6 v7 h
theorem r_235_39 {X : GX} {d : Nat} {r : Int32 × Hp} (hd : 9 ≤ d) (hq : RtX X (some (.int r.1)) r.2) {rec_13 : Int32 → Int32 → Int32 → Int32 → Int32 → Int32 → Hp → Option (Int32 × Hp)} (hr_13 : ∀ {v1 : Int32} {v2 : Int32} {v3 : Int32} {v4 : Int32} {v5 : Int32} {v6 : Int32} {h : Hp}, rec_13 v1 v2 v3 v4 v5 v6 h = some r → G X d 235 13 [some (.ref 84), some (.int v1), some (.int v2), some (.int v3), some (.int v4), some (.int v5), some (.int v6), none] [] h) {h : Hp} {v1 : Int32} {v2 : Int32} {v3 : Int32} {v4 : Int32} {v5 : Int32} {v6 : Int32} {v7 : Int32} (e : R_235_39 rec_13 v1 v2 v3 v4 v5 v6 v7 h = some r) : G X d 235 39 [some (.ref 84), some (.int v1), some (.int v2), some (.int v3), some (.int v4), some (.int v5), some (.int v6), some (.int v7)] [] h := by
  unfold R_235_39 at e
  refine k_235_39 (fun c => ?_) (fun c => ?_)
  · rw [if_pos c] at e; exact r_235_54 hd hq hr_13 e
  · rw [if_neg c] at e; exact r_235_46 hd hq hr_13 e
noncomputable def R_235_33 (rec_13 : Int32 → Int32 → Int32 → Int32 → Int32 → Int32 → Hp → Option (Int32 × Hp)) (v1 : Int32) (v2 : Int32) (v3 : Int32) (v4 : Int32) (v5 : Int32) (v6 : Int32) (s0 : Int32) (h : Hp) : Option (Int32 × Hp) := bndV (S_232 h) (R_235_39 rec_13 v1 v2 v3 v4 v5 v6 s0)
theorem r_235_33 {X : GX} {d : Nat} {r : Int32 × Hp} (hd : 9 ≤ d) (hq : RtX X (some (.int r.1)) r.2) {rec_13 : Int32 → Int32 → Int32 → Int32 → Int32 → Int32 → Hp → Option (Int32 × Hp)} (hr_13 : ∀ {v1 : Int32} {v2 : Int32} {v3 : Int32} {v4 : Int32} {v5 : Int32} {v6 : Int32} {h : Hp}, rec_13 v1 v2 v3 v4 v5 v6 h = some r → G X d 235 13 [some (.ref 84), some (.int v1), some (.int v2), some (.int v3), some (.int v4), some (.int v5), some (.int v6), none] [] h) {h : Hp} {v1 : Int32} {v2 : Int32} {v3 : Int32} {v4 : Int32} {v5 : Int32} {v6 : Int32} {s0 : Int32} (e : R_235_33 rec_13 v1 v2 v3 v4 v5 v6 s0 h = some r) : G X d 235 33 [some (.ref 84), some (.int v1), some (.int v2), some (.int v3), some (.int v4), some (.int v5), some (.int v6), none] [.int s0] h := by
  unfold R_235_33 at e
  obtain ⟨x, h2, e1, e2⟩ := bndV_s e
  refine k_235_33 (by omega) (t_232 e1) ?_
  rintro _ rfl
  exact r_235_39 hd hq hr_13 e2
noncomputable def R_235_27 (rec_13 : Int32 → Int32 → Int32 → Int32 → Int32 → Int32 → Hp → Option (Int32 × Hp)) (v1 : Int32) (v2 : Int32) (v3 : Int32) (v4 : Int32) (v5 : Int32) (v6 : Int32) (h : Hp) : Option (Int32 × Hp) := bndI (S_230 16 h) (R_235_33 rec_13 v1 v2 v3 v4 v5 v6)
theorem r_235_27 {X : GX} {d : Nat} {r : Int32 × Hp} (hd : 9 ≤ d) (hq : RtX X (some (.int r.1)) r.2) {rec_13 : Int32 → Int32 → Int32 → Int32 → Int32 → Int32 → Hp → Option (Int32 × Hp)} (hr_13 : ∀ {v1 : Int32} {v2 : Int32} {v3 : Int32} {v4 : Int32} {v5 : Int32} {v6 : Int32} {h : Hp}, rec_13 v1 v2 v3 v4 v5 v6 h = some r → G X d 235 13 [some (.ref 84), some (.int v1), some (.int v2), some (.int v3), some (.int v4), some (.int v5), some (.int v6), none] [] h) {h : Hp} {v1 : Int32} {v2 : Int32} {v3 : Int32} {v4 : Int32} {v5 : Int32} {v6 : Int32} (e : R_235_27 rec_13 v1 v2 v3 v4 v5 v6 h = some r) : G X d 235 27 [some (.ref 84), some (.int v1), some (.int v2), some (.int v3), some (.int v4), some (.int v5), some (.int v6), none] [] h := by
  unfold R_235_27 at e
  obtain ⟨x, h2, e1, e2⟩ := bndI_s e
  refine k_235_27 (by omega) (t_230 e1) ?_
  rintro _ _ ⟨rfl, rfl⟩
  exact r_235_33 hd hq hr_13 e2
noncomputable def R_235_19 (rec_13 : Int32 → Int32 → Int32 → Int32 → Int32 → Int32 → Hp → Option (Int32 × Hp)) (v1 : Int32) (v2 : Int32) (v3 : Int32) (v4 : Int32) (v5 : Int32) (v6 : Int32) (h : Hp) : Option (Int32 × Hp) := bndV (S_178 v1 v2 v6 h) (R_235_27 rec_13 v1 v2 v3 v4 v5 v6)
theorem r_235_19 {X : GX} {d : Nat} {r : Int32 × Hp} (hd : 9 ≤ d) (hq : RtX X (some (.int r.1)) r.2) {rec_13 : Int32 → Int32 → Int32 → Int32 → Int32 → Int32 → Hp → Option (Int32 × Hp)} (hr_13 : ∀ {v1 : Int32} {v2 : Int32} {v3 : Int32} {v4 : Int32} {v5 : Int32} {v6 : Int32} {h : Hp}, rec_13 v1 v2 v3 v4 v5 v6 h = some r → G X d 235 13 [some (.ref 84), some (.int v1), some (.int v2), some (.int v3), some (.int v4), some (.int v5), some (.int v6), none] [] h) {h : Hp} {v1 : Int32} {v2 : Int32} {v3 : Int32} {v4 : Int32} {v5 : Int32} {v6 : Int32} (e : R_235_19 rec_13 v1 v2 v3 v4 v5 v6 h = some r) : G X d 235 19 [some (.ref 84), some (.int v1), some (.int v2), some (.int v3), some (.int v4), some (.int v5), some (.int v6), none] [] h := by
  unfold R_235_19 at e
  obtain ⟨x, h2, e1, e2⟩ := bndV_s e
  refine k_235_19 (by omega) (t_178 e1) ?_
  rintro _ rfl
  exact r_235_27 hd hq hr_13 e2
noncomputable def R_235_13 (rec_13 : Int32 → Int32 → Int32 → Int32 → Int32 → Int32 → Hp → Option (Int32 × Hp)) (v1 : Int32) (v2 : Int32) (v3 : Int32) (v4 : Int32) (v5 : Int32) (v6 : Int32) (h : Hp) : Option (Int32 × Hp) := if v3 < v6 then R_235_60 v4 h else R_235_19 rec_13 v1 v2 v3 v4 v5 v6 h
theorem r_235_13 {X : GX} {d : Nat} {r : Int32 × Hp} (hd : 9 ≤ d) (hq : RtX X (some (.int r.1)) r.2) {rec_13 : Int32 → Int32 → Int32 → Int32 → Int32 → Int32 → Hp → Option (Int32 × Hp)} (hr_13 : ∀ {v1 : Int32} {v2 : Int32} {v3 : Int32} {v4 : Int32} {v5 : Int32} {v6 : Int32} {h : Hp}, rec_13 v1 v2 v3 v4 v5 v6 h = some r → G X d 235 13 [some (.ref 84), some (.int v1), some (.int v2), some (.int v3), some (.int v4), some (.int v5), some (.int v6), none] [] h) {h : Hp} {v1 : Int32} {v2 : Int32} {v3 : Int32} {v4 : Int32} {v5 : Int32} {v6 : Int32} (e : R_235_13 rec_13 v1 v2 v3 v4 v5 v6 h = some r) : G X d 235 13 [some (.ref 84), some (.int v1), some (.int v2), some (.int v3), some (.int v4), some (.int v5), some (.int v6), none] [] h := by
  unfold R_235_13 at e
  refine k_235_13 (fun c => ?_) (fun c => ?_)
  · rw [if_pos c] at e; exact r_235_60 hd hq e
  · rw [if_neg c] at e; exact r_235_19 hd hq hr_13 e
noncomputable def H_235_13 : Nat → Int32 → Int32 → Int32 → Int32 → Int32 → Int32 → Hp → Option (Int32 × Hp)
  | 0, _, _, _, _, _, _, _ => none
  | n + 1, v1, v2, v3, v4, v5, v6, h => R_235_13 (H_235_13 n) v1 v2 v3 v4 v5 v6 h
theorem h_235_13 {X : GX} {d : Nat} {r : Int32 × Hp} (hd : 9 ≤ d) (hq : RtX X (some (.int r.1)) r.2) {n : Nat} {h : Hp} {v1 : Int32} {v2 : Int32} {v3 : Int32} {v4 : Int32} {v5 : Int32} {v6 : Int32} (e : H_235_13 n v1 v2 v3 v4 v5 v6 h = some r) : G X d 235 13 [some (.ref 84), some (.int v1), some (.int v2), some (.int v3), some (.int v4), some (.int v5), some (.int v6), none] [] h := by
  induction n generalizing v1 v2 v3 v4 v5 v6 h with
  | zero => cases e
  | succ n ih => exact r_235_13 hd hq (fun e => ih e) e
noncomputable def R_235_4 (v1 : Int32) (v2 : Int32) (v3 : Int32) (h : Hp) : Option (Int32 × Hp) := H_235_13 fuL v1 v2 v3 0 ((-1)) 0 h
theorem r_235_4 {X : GX} {d : Nat} {r : Int32 × Hp} (hd : 9 ≤ d) (hq : RtX X (some (.int r.1)) r.2) {h : Hp} {v1 : Int32} {v2 : Int32} {v3 : Int32} (e : R_235_4 v1 v2 v3 h = some r) : G X d 235 4 [some (.ref 84), some (.int v1), some (.int v2), some (.int v3), none, none, none, none] [] h := by
  unfold R_235_4 at e
  exact k_235_4 (h_235_13 hd hq e)
noncomputable def R_235_0 (v1 : Int32) (v2 : Int32) (v3 : Int32) (h : Hp) : Option (Int32 × Hp) := bndV (S_229 h) (R_235_4 v1 v2 v3)
theorem r_235_0 {X : GX} {d : Nat} {r : Int32 × Hp} (hd : 9 ≤ d) (hq : RtX X (some (.int r.1)) r.2) {h : Hp} {v1 : Int32} {v2 : Int32} {v3 : Int32} (e : R_235_0 v1 v2 v3 h = some r) : G X d 235 0 [some (.ref 84), some (.int v1), some (.int v2), some (.int v3), none, none, none, none] [] h := by
  unfold R_235_0 at e
  obtain ⟨x, h2, e1, e2⟩ := bndV_s e
  refine k_235_0 (by omega) (t_229 e1) ?_
  rintro _ rfl
  exact r_235_4 hd hq e2
noncomputable def S_235 (v1 : Int32) (v2 : Int32) (v3 : Int32) (h : Hp) : Option (Int32 × Hp) := R_235_0 v1 v2 v3 h
set_option maxRecDepth 100000 in
theorem t_235 {v1 : Int32} {v2 : Int32} {v3 : Int32} {h : Hp} {r : Int32 × Hp} (e : S_235 v1 v2 v3 h = some r) : CI 9 235 [.ref 84, .int v1, .int v2, .int v3] h (fun x g => x = r.1 ∧ g = r.2) := by
  refine C.of mo_235 (Nat.le_of_ble_eq_true rfl) (fun X hq => ?_)
  exact r_235_0 (Nat.le_refl _) (hq _ _ ⟨_, rfl, rfl, rfl⟩) e
/-! 234 PlayedTruthModel.prettyFor(I)I -/
noncomputable def R_234_19 (h : Hp) : Option (Int32 × Hp) := some (((-1)), h)
theorem r_234_19 {X : GX} {d : Nat} {r : Int32 × Hp} (hd : 10 ≤ d) (hq : RtX X (some (.int r.1)) r.2) {h : Hp} (e : R_234_19 h = some r) : G X d 234 19 [none, none] [] h := by
  unfold R_234_19 at e
  rw [← Option.some.inj e] at hq
  exact k_234_19 hq
noncomputable def R_234_16 (s0 : Int32) (h : Hp) : Option (Int32 × Hp) := some (s0, h)
theorem r_234_16 {X : GX} {d : Nat} {r : Int32 × Hp} (hd : 10 ≤ d) (hq : RtX X (some (.int r.1)) r.2) {h : Hp} {s0 : Int32} (e : R_234_16 s0 h = some r) : G X d 234 16 [none, none] [.int s0] h := by
  unfold R_234_16 at e
  rw [← Option.some.inj e] at hq
  exact k_234_16 hq
noncomputable def R_234_8 (v1 : Int32) (h : Hp) : Option (Int32 × Hp) := bndI (S_235 v1 2 9 h) (R_234_16)
theorem r_234_8 {X : GX} {d : Nat} {r : Int32 × Hp} (hd : 10 ≤ d) (hq : RtX X (some (.int r.1)) r.2) {h : Hp} {v1 : Int32} (e : R_234_8 v1 h = some r) : G X d 234 8 [some (.ref 84), some (.int v1)] [] h := by
  unfold R_234_8 at e
  obtain ⟨x, h2, e1, e2⟩ := bndI_s e
  refine k_234_8 (by omega) (t_235 e1) ?_
  rintro _ _ ⟨rfl, rfl⟩
  exact r_234_16 hd hq e2
noncomputable def R_234_5 (v1 : Int32) (s0 : Int32) (h : Hp) : Option (Int32 × Hp) := if s0 = 0 then R_234_19 h else R_234_8 v1 h
theorem r_234_5 {X : GX} {d : Nat} {r : Int32 × Hp} (hd : 10 ≤ d) (hq : RtX X (some (.int r.1)) r.2) {h : Hp} {v1 : Int32} {s0 : Int32} (e : R_234_5 v1 s0 h = some r) : G X d 234 5 [some (.ref 84), some (.int v1)] [.int s0] h := by
  unfold R_234_5 at e
  refine k_234_5 (fun c => ?_) (fun c => ?_)
  · rw [if_pos c] at e; exact r_234_19 hd hq e
  · rw [if_neg c] at e; exact r_234_8 hd hq e
noncomputable def R_234_0 (v1 : Int32) (h : Hp) : Option (Int32 × Hp) := bndI (S_180 v1 h) (R_234_5 v1)
theorem r_234_0 {X : GX} {d : Nat} {r : Int32 × Hp} (hd : 10 ≤ d) (hq : RtX X (some (.int r.1)) r.2) {h : Hp} {v1 : Int32} (e : R_234_0 v1 h = some r) : G X d 234 0 [some (.ref 84), some (.int v1)] [] h := by
  unfold R_234_0 at e
  obtain ⟨x, h2, e1, e2⟩ := bndI_s e
  refine k_234_0 (by omega) (t_180 e1) ?_
  rintro _ _ ⟨rfl, rfl⟩
  exact r_234_5 hd hq e2
noncomputable def S_234 (v1 : Int32) (h : Hp) : Option (Int32 × Hp) := R_234_0 v1 h
set_option maxRecDepth 100000 in
theorem t_234 {v1 : Int32} {h : Hp} {r : Int32 × Hp} (e : S_234 v1 h = some r) : CI 10 234 [.ref 84, .int v1] h (fun x g => x = r.1 ∧ g = r.2) := by
  refine C.of mo_234 (Nat.le_of_ble_eq_true rfl) (fun X hq => ?_)
  exact r_234_0 (Nat.le_refl _) (hq _ _ ⟨_, rfl, rfl, rfl⟩) e
/-! 236 PlayedTruthModel.placeFor(I)I -/
noncomputable def R_236_18 (h : Hp) : Option (Int32 × Hp) := some (((-1)), h)
theorem r_236_18 {X : GX} {d : Nat} {r : Int32 × Hp} (hd : 10 ≤ d) (hq : RtX X (some (.int r.1)) r.2) {h : Hp} (e : R_236_18 h = some r) : G X d 236 18 [none, none] [] h := by
  unfold R_236_18 at e
  rw [← Option.some.inj e] at hq
  exact k_236_18 hq
noncomputable def R_236_15 (s0 : Int32) (h : Hp) : Option (Int32 × Hp) := some (s0, h)
theorem r_236_15 {X : GX} {d : Nat} {r : Int32 × Hp} (hd : 10 ≤ d) (hq : RtX X (some (.int r.1)) r.2) {h : Hp} {s0 : Int32} (e : R_236_15 s0 h = some r) : G X d 236 15 [none, none] [.int s0] h := by
  unfold R_236_15 at e
  rw [← Option.some.inj e] at hq
  exact k_236_15 hq
noncomputable def R_236_8 (v1 : Int32) (h : Hp) : Option (Int32 × Hp) := bndI (S_235 v1 3 5 h) (R_236_15)
theorem r_236_8 {X : GX} {d : Nat} {r : Int32 × Hp} (hd : 10 ≤ d) (hq : RtX X (some (.int r.1)) r.2) {h : Hp} {v1 : Int32} (e : R_236_8 v1 h = some r) : G X d 236 8 [some (.ref 84), some (.int v1)] [] h := by
  unfold R_236_8 at e
  obtain ⟨x, h2, e1, e2⟩ := bndI_s e
  refine k_236_8 (by omega) (t_235 e1) ?_
  rintro _ _ ⟨rfl, rfl⟩
  exact r_236_15 hd hq e2
noncomputable def R_236_5 (v1 : Int32) (s0 : Int32) (h : Hp) : Option (Int32 × Hp) := if s0 = 0 then R_236_18 h else R_236_8 v1 h
theorem r_236_5 {X : GX} {d : Nat} {r : Int32 × Hp} (hd : 10 ≤ d) (hq : RtX X (some (.int r.1)) r.2) {h : Hp} {v1 : Int32} {s0 : Int32} (e : R_236_5 v1 s0 h = some r) : G X d 236 5 [some (.ref 84), some (.int v1)] [.int s0] h := by
  unfold R_236_5 at e
  refine k_236_5 (fun c => ?_) (fun c => ?_)
  · rw [if_pos c] at e; exact r_236_18 hd hq e
  · rw [if_neg c] at e; exact r_236_8 hd hq e
noncomputable def R_236_0 (v1 : Int32) (h : Hp) : Option (Int32 × Hp) := bndI (S_180 v1 h) (R_236_5 v1)
theorem r_236_0 {X : GX} {d : Nat} {r : Int32 × Hp} (hd : 10 ≤ d) (hq : RtX X (some (.int r.1)) r.2) {h : Hp} {v1 : Int32} (e : R_236_0 v1 h = some r) : G X d 236 0 [some (.ref 84), some (.int v1)] [] h := by
  unfold R_236_0 at e
  obtain ⟨x, h2, e1, e2⟩ := bndI_s e
  refine k_236_0 (by omega) (t_180 e1) ?_
  rintro _ _ ⟨rfl, rfl⟩
  exact r_236_5 hd hq e2
noncomputable def S_236 (v1 : Int32) (h : Hp) : Option (Int32 × Hp) := R_236_0 v1 h
set_option maxRecDepth 100000 in
theorem t_236 {v1 : Int32} {h : Hp} {r : Int32 × Hp} (e : S_236 v1 h = some r) : CI 10 236 [.ref 84, .int v1] h (fun x g => x = r.1 ∧ g = r.2) := by
  refine C.of mo_236 (Nat.le_of_ble_eq_true rfl) (fun X hq => ?_)
  exact r_236_0 (Nat.le_refl _) (hq _ _ ⟨_, rfl, rfl, rfl⟩) e
/-! 237 PlayedTruthModel.truth(I)I -/
noncomputable def R_237_69 (v2 : Int32) (h : Hp) : Option (Int32 × Hp) := some (v2, h)
theorem r_237_69 {X : GX} {d : Nat} {r : Int32 × Hp} (hd : 8 ≤ d) (hq : RtX X (some (.int r.1)) r.2) {h : Hp} {v2 : Int32} (e : R_237_69 v2 h = some r) : G X d 237 69 [none, none, some (.int v2)] [] h := by
  unfold R_237_69 at e
  rw [← Option.some.inj e] at hq
  exact k_237_69 hq
noncomputable def R_237_62 (h : Hp) : Option (Int32 × Hp) := bndV (S_231 h) (R_237_69 ((-3)))
theorem r_237_62 {X : GX} {d : Nat} {r : Int32 × Hp} (hd : 8 ≤ d) (hq : RtX X (some (.int r.1)) r.2) {h : Hp} (e : R_237_62 h = some r) : G X d 237 62 [some (.ref 84), none, none] [] h := by
  unfold R_237_62 at e
  obtain ⟨x, h2, e1, e2⟩ := bndV_s e
  refine k_237_62 (by omega) (t_231 e1) ?_
  rintro _ rfl
  exact r_237_69 hd hq e2
noncomputable def R_237_53 (h : Hp) : Option (Int32 × Hp) := gd (IA 85 1) (bndV (S_231 h) (R_237_69 (h 85 (Int32.toNatClampNeg 1))))
theorem r_237_53 {X : GX} {d : Nat} {r : Int32 × Hp} (hd : 8 ≤ d) (hq : RtX X (some (.int r.1)) r.2) {h : Hp} (e : R_237_53 h = some r) : G X d 237 53 [some (.ref 84), none, none] [] h := by
  unfold R_237_53 at e
  have g := gd_s e; clear e; obtain ⟨b0, e⟩ := g
  obtain ⟨x, h2, e1, e2⟩ := bndV_s e
  refine k_237_53 b0 (by omega) (t_231 e1) ?_
  rintro _ rfl
  exact r_237_69 hd hq e2
noncomputable def R_237_49 (v1 : Int32) (s0 : Int32) (h : Hp) : Option (Int32 × Hp) := if s0 < v1 then R_237_62 h else R_237_53 h
theorem r_237_49 {X : GX} {d : Nat} {r : Int32 × Hp} (hd : 8 ≤ d) (hq : RtX X (some (.int r.1)) r.2) {h : Hp} {v1 : Int32} {s0 : Int32} (e : R_237_49 v1 s0 h = some r) : G X d 237 49 [some (.ref 84), some (.int v1), none] [.int s0] h := by
  unfold R_237_49 at e
  refine k_237_49 (fun c => ?_) (fun c => ?_)
  · rw [if_pos c] at e; exact r_237_62 hd hq e
  · rw [if_neg c] at e; exact r_237_53 hd hq e
noncomputable def R_237_45 (v1 : Int32) (h : Hp) : Option (Int32 × Hp) := bndI (S_207 h) (R_237_49 v1)
theorem r_237_45 {X : GX} {d : Nat} {r : Int32 × Hp} (hd : 8 ≤ d) (hq : RtX X (some (.int r.1)) r.2) {h : Hp} {v1 : Int32} (e : R_237_45 v1 h = some r) : G X d 237 45 [some (.ref 84), some (.int v1), none] [] h := by
  unfold R_237_45 at e
  obtain ⟨x, h2, e1, e2⟩ := bndI_s e
  refine k_237_45 (by omega) (t_207 e1) ?_
  rintro _ _ ⟨rfl, rfl⟩
  exact r_237_49 hd hq e2
noncomputable def R_237_41 (rec_18 : Int32 → Hp → Option (Int32 × Hp)) (v1 : Int32) (s0 : Int32) (h : Hp) : Option (Int32 × Hp) := rec_18 v1 h
theorem r_237_41 {X : GX} {d : Nat} {r : Int32 × Hp} (hd : 8 ≤ d) (hq : RtX X (some (.int r.1)) r.2) {rec_18 : Int32 → Hp → Option (Int32 × Hp)} (hr_18 : ∀ {v1 : Int32} {h : Hp}, rec_18 v1 h = some r → G X d 237 18 [some (.ref 84), some (.int v1), none] [] h) {h : Hp} {v1 : Int32} {s0 : Int32} (e : R_237_41 rec_18 v1 s0 h = some r) : G X d 237 41 [some (.ref 84), some (.int v1), none] [.int s0] h := by
  unfold R_237_41 at e
  exact k_237_41 (hr_18 e)
noncomputable def R_237_38 (rec_18 : Int32 → Hp → Option (Int32 × Hp)) (v1 : Int32) (s1 : Nat) (s0 : Int32) (h : Hp) : Option (Int32 × Hp) := gd (sh s1 = (1, 9) ∧ s1 = 84) (bndI (S_226 s0 h) (R_237_41 rec_18 v1))
theorem r_237_38 {X : GX} {d : Nat} {r : Int32 × Hp} (hd : 8 ≤ d) (hq : RtX X (some (.int r.1)) r.2) {rec_18 : Int32 → Hp → Option (Int32 × Hp)} (hr_18 : ∀ {v1 : Int32} {h : Hp}, rec_18 v1 h = some r → G X d 237 18 [some (.ref 84), some (.int v1), none] [] h) {h : Hp} {v1 : Int32} {s1 : Nat} {s0 : Int32} (e : R_237_38 rec_18 v1 s1 s0 h = some r) : G X d 237 38 [some (.ref 84), some (.int v1), none] [.int s0, .ref s1] h := by
  unfold R_237_38 at e
  have g := gd_s e; clear e; obtain ⟨⟨o0, q0⟩, e⟩ := g
  subst q0
  obtain ⟨x, h2, e1, e2⟩ := bndI_s e
  refine k_237_38 o0 (by omega) (t_226 e1) ?_
  rintro _ _ ⟨rfl, rfl⟩
  exact r_237_41 hd hq hr_18 e2
noncomputable def R_237_33 (rec_18 : Int32 → Hp → Option (Int32 × Hp)) (v1 : Int32) (h : Hp) : Option (Int32 × Hp) := bndI (S_225 h) (R_237_38 rec_18 v1 84)
theorem r_237_33 {X : GX} {d : Nat} {r : Int32 × Hp} (hd : 8 ≤ d) (hq : RtX X (some (.int r.1)) r.2) {rec_18 : Int32 → Hp → Option (Int32 × Hp)} (hr_18 : ∀ {v1 : Int32} {h : Hp}, rec_18 v1 h = some r → G X d 237 18 [some (.ref 84), some (.int v1), none] [] h) {h : Hp} {v1 : Int32} (e : R_237_33 rec_18 v1 h = some r) : G X d 237 33 [some (.ref 84), some (.int v1), none] [] h := by
  unfold R_237_33 at e
  obtain ⟨x, h2, e1, e2⟩ := bndI_s e
  refine k_237_33 (by omega) (t_225 e1) ?_
  rintro _ _ ⟨rfl, rfl⟩
  exact r_237_38 hd hq hr_18 e2
noncomputable def R_237_29 (rec_18 : Int32 → Hp → Option (Int32 × Hp)) (v1 : Int32) (s0 : Int32) (h : Hp) : Option (Int32 × Hp) := if v1 ≤ s0 then R_237_45 v1 h else R_237_33 rec_18 v1 h
theorem r_237_29 {X : GX} {d : Nat} {r : Int32 × Hp} (hd : 8 ≤ d) (hq : RtX X (some (.int r.1)) r.2) {rec_18 : Int32 → Hp → Option (Int32 × Hp)} (hr_18 : ∀ {v1 : Int32} {h : Hp}, rec_18 v1 h = some r → G X d 237 18 [some (.ref 84), some (.int v1), none] [] h) {h : Hp} {v1 : Int32} {s0 : Int32} (e : R_237_29 rec_18 v1 s0 h = some r) : G X d 237 29 [some (.ref 84), some (.int v1), none] [.int s0] h := by
  unfold R_237_29 at e
  refine k_237_29 (fun c => ?_) (fun c => ?_)
  · rw [if_pos c] at e; exact r_237_45 hd hq e
  · rw [if_neg c] at e; exact r_237_33 hd hq hr_18 e
noncomputable def R_237_25 (rec_18 : Int32 → Hp → Option (Int32 × Hp)) (v1 : Int32) (h : Hp) : Option (Int32 × Hp) := bndI (S_207 h) (R_237_29 rec_18 v1)
theorem r_237_25 {X : GX} {d : Nat} {r : Int32 × Hp} (hd : 8 ≤ d) (hq : RtX X (some (.int r.1)) r.2) {rec_18 : Int32 → Hp → Option (Int32 × Hp)} (hr_18 : ∀ {v1 : Int32} {h : Hp}, rec_18 v1 h = some r → G X d 237 18 [some (.ref 84), some (.int v1), none] [] h) {h : Hp} {v1 : Int32} (e : R_237_25 rec_18 v1 h = some r) : G X d 237 25 [some (.ref 84), some (.int v1), none] [] h := by
  unfold R_237_25 at e
  obtain ⟨x, h2, e1, e2⟩ := bndI_s e
  refine k_237_25 (by omega) (t_207 e1) ?_
  rintro _ _ ⟨rfl, rfl⟩
  exact r_237_29 hd hq hr_18 e2
noncomputable def R_237_22 (rec_18 : Int32 → Hp → Option (Int32 × Hp)) (v1 : Int32) (s0 : Int32) (h : Hp) : Option (Int32 × Hp) := if s0 = 0 then R_237_25 rec_18 v1 h else R_237_45 v1 h
theorem r_237_22 {X : GX} {d : Nat} {r : Int32 × Hp} (hd : 8 ≤ d) (hq : RtX X (some (.int r.1)) r.2) {rec_18 : Int32 → Hp → Option (Int32 × Hp)} (hr_18 : ∀ {v1 : Int32} {h : Hp}, rec_18 v1 h = some r → G X d 237 18 [some (.ref 84), some (.int v1), none] [] h) {h : Hp} {v1 : Int32} {s0 : Int32} (e : R_237_22 rec_18 v1 s0 h = some r) : G X d 237 22 [some (.ref 84), some (.int v1), none] [.int s0] h := by
  unfold R_237_22 at e
  refine k_237_22 (fun c => ?_) (fun c => ?_)
  · rw [if_neg c] at e; exact r_237_45 hd hq e
  · rw [if_pos c] at e; exact r_237_25 hd hq hr_18 e
noncomputable def R_237_18 (rec_18 : Int32 → Hp → Option (Int32 × Hp)) (v1 : Int32) (h : Hp) : Option (Int32 × Hp) := bndI (S_205 h) (R_237_22 rec_18 v1)
theorem r_237_18 {X : GX} {d : Nat} {r : Int32 × Hp} (hd : 8 ≤ d) (hq : RtX X (some (.int r.1)) r.2) {rec_18 : Int32 → Hp → Option (Int32 × Hp)} (hr_18 : ∀ {v1 : Int32} {h : Hp}, rec_18 v1 h = some r → G X d 237 18 [some (.ref 84), some (.int v1), none] [] h) {h : Hp} {v1 : Int32} (e : R_237_18 rec_18 v1 h = some r) : G X d 237 18 [some (.ref 84), some (.int v1), none] [] h := by
  unfold R_237_18 at e
  obtain ⟨x, h2, e1, e2⟩ := bndI_s e
  refine k_237_18 (by omega) (t_205 e1) ?_
  rintro _ _ ⟨rfl, rfl⟩
  exact r_237_22 hd hq hr_18 e2
noncomputable def H_237_18 : Nat → Int32 → Hp → Option (Int32 × Hp)
  | 0, _, _ => none
  | n + 1, v1, h => R_237_18 (H_237_18 n) v1 h
theorem h_237_18 {X : GX} {d : Nat} {r : Int32 × Hp} (hd : 8 ≤ d) (hq : RtX X (some (.int r.1)) r.2) {n : Nat} {h : Hp} {v1 : Int32} (e : H_237_18 n v1 h = some r) : G X d 237 18 [some (.ref 84), some (.int v1), none] [] h := by
  induction n generalizing v1 h with
  | zero => cases e
  | succ n ih => exact r_237_18 hd hq (fun e => ih e) e
noncomputable def R_237_14 (v1 : Int32) (h : Hp) : Option (Int32 × Hp) := bndV (S_229 h) (H_237_18 fuL v1)
theorem r_237_14 {X : GX} {d : Nat} {r : Int32 × Hp} (hd : 8 ≤ d) (hq : RtX X (some (.int r.1)) r.2) {h : Hp} {v1 : Int32} (e : R_237_14 v1 h = some r) : G X d 237 14 [some (.ref 84), some (.int v1), none] [] h := by
  unfold R_237_14 at e
  obtain ⟨x, h2, e1, e2⟩ := bndV_s e
  refine k_237_14 (by omega) (t_229 e1) ?_
  rintro _ rfl
  exact h_237_18 hd hq e2
noncomputable def R_237_12 (h : Hp) : Option (Int32 × Hp) := some (((-1)), h)
theorem r_237_12 {X : GX} {d : Nat} {r : Int32 × Hp} (hd : 8 ≤ d) (hq : RtX X (some (.int r.1)) r.2) {h : Hp} (e : R_237_12 h = some r) : G X d 237 12 [none, none, none] [] h := by
  unfold R_237_12 at e
  rw [← Option.some.inj e] at hq
  exact k_237_12 hq
noncomputable def R_237_9 (v1 : Int32) (s0 : Int32) (h : Hp) : Option (Int32 × Hp) := if s0 = 0 then R_237_12 h else R_237_14 v1 h
theorem r_237_9 {X : GX} {d : Nat} {r : Int32 × Hp} (hd : 8 ≤ d) (hq : RtX X (some (.int r.1)) r.2) {h : Hp} {v1 : Int32} {s0 : Int32} (e : R_237_9 v1 s0 h = some r) : G X d 237 9 [some (.ref 84), some (.int v1), none] [.int s0] h := by
  unfold R_237_9 at e
  refine k_237_9 (fun c => ?_) (fun c => ?_)
  · rw [if_neg c] at e; exact r_237_14 hd hq e
  · rw [if_pos c] at e; exact r_237_12 hd hq e
noncomputable def R_237_0 (v1 : Int32) (h : Hp) : Option (Int32 × Hp) := bndI (S_177 (Int32.toInt64 v1) 0 594 h) (R_237_9 v1)
theorem r_237_0 {X : GX} {d : Nat} {r : Int32 × Hp} (hd : 8 ≤ d) (hq : RtX X (some (.int r.1)) r.2) {h : Hp} {v1 : Int32} (e : R_237_0 v1 h = some r) : G X d 237 0 [some (.ref 84), some (.int v1), none] [] h := by
  unfold R_237_0 at e
  obtain ⟨x, h2, e1, e2⟩ := bndI_s e
  refine k_237_0 (by omega) (t_177 e1) ?_
  rintro _ _ ⟨rfl, rfl⟩
  exact r_237_9 hd hq e2
noncomputable def S_237 (v1 : Int32) (h : Hp) : Option (Int32 × Hp) := R_237_0 v1 h
set_option maxRecDepth 100000 in
theorem t_237 {v1 : Int32} {h : Hp} {r : Int32 × Hp} (e : S_237 v1 h = some r) : CI 8 237 [.ref 84, .int v1] h (fun x g => x = r.1 ∧ g = r.2) := by
  refine C.of mo_237 (Nat.le_of_ble_eq_true rfl) (fun X hq => ?_)
  exact r_237_0 (Nat.le_refl _) (hq _ _ ⟨_, rfl, rfl, rfl⟩) e
/-! 239 PlayedTruthModel.scenesAt(I)I -/
noncomputable def R_239_40 (v2 : Int32) (h : Hp) : Option (Int32 × Hp) := some (v2, h)
theorem r_239_40 {X : GX} {d : Nat} {r : Int32 × Hp} (hd : 2 ≤ d) (hq : RtX X (some (.int r.1)) r.2) {h : Hp} {v2 : Int32} (e : R_239_40 v2 h = some r) : G X d 239 40 [none, none, some (.int v2), none] [] h := by
  unfold R_239_40 at e
  rw [← Option.some.inj e] at hq
  exact k_239_40 hq
noncomputable def R_239_31 (rec_4 : Int32 → Int32 → Int32 → Hp → Option (Int32 × Hp)) (v1 : Int32) (v3 : Int32) (s0 : Int32) (h : Hp) : Option (Int32 × Hp) := rec_4 v1 (s0 ||| 0) (v3 + 1) h
theorem r_239_31 {X : GX} {d : Nat} {r : Int32 × Hp} (hd : 2 ≤ d) (hq : RtX X (some (.int r.1)) r.2) {rec_4 : Int32 → Int32 → Int32 → Hp → Option (Int32 × Hp)} (hr_4 : ∀ {v1 : Int32} {v2 : Int32} {v3 : Int32} {h : Hp}, rec_4 v1 v2 v3 h = some r → G X d 239 4 [some (.ref 84), some (.int v1), some (.int v2), some (.int v3)] [] h) {h : Hp} {v1 : Int32} {v3 : Int32} {s0 : Int32} (e : R_239_31 rec_4 v1 v3 s0 h = some r) : G X d 239 31 [some (.ref 84), some (.int v1), none, some (.int v3)] [.int s0] h := by
  unfold R_239_31 at e
  exact k_239_31 (hr_4 e)
noncomputable def R_239_25 (rec_4 : Int32 → Int32 → Int32 → Hp → Option (Int32 × Hp)) (v1 : Int32) (v3 : Int32) (s0 : Int32) (h : Hp) : Option (Int32 × Hp) := rec_4 v1 (s0 ||| (1 <<< (v3 &&& 31))) (v3 + 1) h
theorem r_239_25 {X : GX} {d : Nat} {r : Int32 × Hp} (hd : 2 ≤ d) (hq : RtX X (some (.int r.1)) r.2) {rec_4 : Int32 → Int32 → Int32 → Hp → Option (Int32 × Hp)} (hr_4 : ∀ {v1 : Int32} {v2 : Int32} {v3 : Int32} {h : Hp}, rec_4 v1 v2 v3 h = some r → G X d 239 4 [some (.ref 84), some (.int v1), some (.int v2), some (.int v3)] [] h) {h : Hp} {v1 : Int32} {v3 : Int32} {s0 : Int32} (e : R_239_25 rec_4 v1 v3 s0 h = some r) : G X d 239 25 [some (.ref 84), some (.int v1), none, some (.int v3)] [.int s0] h := by
  unfold R_239_25 at e
  exact k_239_25 (hr_4 e)
noncomputable def R_239_21 (rec_4 : Int32 → Int32 → Int32 → Hp → Option (Int32 × Hp)) (v1 : Int32) (v3 : Int32) (s1 : Int32) (s0 : Int32) (h : Hp) : Option (Int32 × Hp) := if s0 = v1 then R_239_25 rec_4 v1 v3 s1 h else R_239_31 rec_4 v1 v3 s1 h
theorem r_239_21 {X : GX} {d : Nat} {r : Int32 × Hp} (hd : 2 ≤ d) (hq : RtX X (some (.int r.1)) r.2) {rec_4 : Int32 → Int32 → Int32 → Hp → Option (Int32 × Hp)} (hr_4 : ∀ {v1 : Int32} {v2 : Int32} {v3 : Int32} {h : Hp}, rec_4 v1 v2 v3 h = some r → G X d 239 4 [some (.ref 84), some (.int v1), some (.int v2), some (.int v3)] [] h) {h : Hp} {v1 : Int32} {v3 : Int32} {s1 : Int32} {s0 : Int32} (e : R_239_21 rec_4 v1 v3 s1 s0 h = some r) : G X d 239 21 [some (.ref 84), some (.int v1), none, some (.int v3)] [.int s0, .int s1] h := by
  unfold R_239_21 at e
  refine k_239_21 (fun c => ?_) (fun c => ?_)
  · rw [if_neg c] at e; exact r_239_31 hd hq hr_4 e
  · rw [if_pos c] at e; exact r_239_25 hd hq hr_4 e
noncomputable def R_239_14 (rec_4 : Int32 → Int32 → Int32 → Hp → Option (Int32 × Hp)) (v1 : Int32) (v2 : Int32) (v3 : Int32) (h : Hp) : Option (Int32 × Hp) := bndI (S_182 v3 3 h) (R_239_21 rec_4 v1 v3 v2)
theorem r_239_14 {X : GX} {d : Nat} {r : Int32 × Hp} (hd : 2 ≤ d) (hq : RtX X (some (.int r.1)) r.2) {rec_4 : Int32 → Int32 → Int32 → Hp → Option (Int32 × Hp)} (hr_4 : ∀ {v1 : Int32} {v2 : Int32} {v3 : Int32} {h : Hp}, rec_4 v1 v2 v3 h = some r → G X d 239 4 [some (.ref 84), some (.int v1), some (.int v2), some (.int v3)] [] h) {h : Hp} {v1 : Int32} {v2 : Int32} {v3 : Int32} (e : R_239_14 rec_4 v1 v2 v3 h = some r) : G X d 239 14 [some (.ref 84), some (.int v1), some (.int v2), some (.int v3)] [] h := by
  unfold R_239_14 at e
  obtain ⟨x, h2, e1, e2⟩ := bndI_s e
  refine k_239_14 (by omega) (t_182 e1) ?_
  rintro _ _ ⟨rfl, rfl⟩
  exact r_239_21 hd hq hr_4 e2
noncomputable def R_239_4 (rec_4 : Int32 → Int32 → Int32 → Hp → Option (Int32 × Hp)) (v1 : Int32) (v2 : Int32) (v3 : Int32) (h : Hp) : Option (Int32 × Hp) := gd (IA 85 0) (if (h 85 (Int32.toNatClampNeg 0)) ≤ v3 then R_239_40 v2 h else R_239_14 rec_4 v1 v2 v3 h)
theorem r_239_4 {X : GX} {d : Nat} {r : Int32 × Hp} (hd : 2 ≤ d) (hq : RtX X (some (.int r.1)) r.2) {rec_4 : Int32 → Int32 → Int32 → Hp → Option (Int32 × Hp)} (hr_4 : ∀ {v1 : Int32} {v2 : Int32} {v3 : Int32} {h : Hp}, rec_4 v1 v2 v3 h = some r → G X d 239 4 [some (.ref 84), some (.int v1), some (.int v2), some (.int v3)] [] h) {h : Hp} {v1 : Int32} {v2 : Int32} {v3 : Int32} (e : R_239_4 rec_4 v1 v2 v3 h = some r) : G X d 239 4 [some (.ref 84), some (.int v1), some (.int v2), some (.int v3)] [] h := by
  unfold R_239_4 at e
  have g := gd_s e; clear e; obtain ⟨b0, e⟩ := g
  refine k_239_4 b0 (fun c => ?_) (fun c => ?_)
  · rw [if_pos c] at e; exact r_239_40 hd hq e
  · rw [if_neg c] at e; exact r_239_14 hd hq hr_4 e
noncomputable def H_239_4 : Nat → Int32 → Int32 → Int32 → Hp → Option (Int32 × Hp)
  | 0, _, _, _, _ => none
  | n + 1, v1, v2, v3, h => R_239_4 (H_239_4 n) v1 v2 v3 h
theorem h_239_4 {X : GX} {d : Nat} {r : Int32 × Hp} (hd : 2 ≤ d) (hq : RtX X (some (.int r.1)) r.2) {n : Nat} {h : Hp} {v1 : Int32} {v2 : Int32} {v3 : Int32} (e : H_239_4 n v1 v2 v3 h = some r) : G X d 239 4 [some (.ref 84), some (.int v1), some (.int v2), some (.int v3)] [] h := by
  induction n generalizing v1 v2 v3 h with
  | zero => cases e
  | succ n ih => exact r_239_4 hd hq (fun e => ih e) e
noncomputable def R_239_0 (v1 : Int32) (h : Hp) : Option (Int32 × Hp) := H_239_4 fuL v1 0 0 h
theorem r_239_0 {X : GX} {d : Nat} {r : Int32 × Hp} (hd : 2 ≤ d) (hq : RtX X (some (.int r.1)) r.2) {h : Hp} {v1 : Int32} (e : R_239_0 v1 h = some r) : G X d 239 0 [some (.ref 84), some (.int v1), none, none] [] h := by
  unfold R_239_0 at e
  exact k_239_0 (h_239_4 hd hq e)
noncomputable def S_239 (v1 : Int32) (h : Hp) : Option (Int32 × Hp) := R_239_0 v1 h
set_option maxRecDepth 100000 in
theorem t_239 {v1 : Int32} {h : Hp} {r : Int32 × Hp} (e : S_239 v1 h = some r) : CI 2 239 [.ref 84, .int v1] h (fun x g => x = r.1 ∧ g = r.2) := by
  refine C.of mo_239 (Nat.le_of_ble_eq_true rfl) (fun X hq => ?_)
  exact r_239_0 (Nat.le_refl _) (hq _ _ ⟨_, rfl, rfl, rfl⟩) e
/-! 238 PlayedTruthModel.props(I)I -/
noncomputable def R_238_49 (v2 : Int32) (h : Hp) : Option (Int32 × Hp) := some (v2, h)
theorem r_238_49 {X : GX} {d : Nat} {r : Int32 × Hp} (hd : 3 ≤ d) (hq : RtX X (some (.int r.1)) r.2) {h : Hp} {v2 : Int32} (e : R_238_49 v2 h = some r) : G X d 238 49 [none, none, some (.int v2), none] [] h := by
  unfold R_238_49 at e
  rw [← Option.some.inj e] at hq
  exact k_238_49 hq
noncomputable def R_238_41 (rec_23 : Int32 → Int32 → Hp → Option (Int32 × Hp)) (v3 : Int32) (s1 : Int32) (s0 : Int32) (h : Hp) : Option (Int32 × Hp) := rec_23 (s1 ||| s0) (v3 + (-1)) h
theorem r_238_41 {X : GX} {d : Nat} {r : Int32 × Hp} (hd : 3 ≤ d) (hq : RtX X (some (.int r.1)) r.2) {rec_23 : Int32 → Int32 → Hp → Option (Int32 × Hp)} (hr_23 : ∀ {v2 : Int32} {v3 : Int32} {h : Hp}, rec_23 v2 v3 h = some r → G X d 238 23 [some (.ref 84), none, some (.int v2), some (.int v3)] [] h) {h : Hp} {v3 : Int32} {s1 : Int32} {s0 : Int32} (e : R_238_41 rec_23 v3 s1 s0 h = some r) : G X d 238 41 [some (.ref 84), none, none, some (.int v3)] [.int s0, .int s1] h := by
  unfold R_238_41 at e
  exact k_238_41 (hr_23 e)
noncomputable def R_238_35 (rec_23 : Int32 → Int32 → Hp → Option (Int32 × Hp)) (v2 : Int32) (v3 : Int32) (h : Hp) : Option (Int32 × Hp) := bndI (S_239 v3 h) (R_238_41 rec_23 v3 v2)
theorem r_238_35 {X : GX} {d : Nat} {r : Int32 × Hp} (hd : 3 ≤ d) (hq : RtX X (some (.int r.1)) r.2) {rec_23 : Int32 → Int32 → Hp → Option (Int32 × Hp)} (hr_23 : ∀ {v2 : Int32} {v3 : Int32} {h : Hp}, rec_23 v2 v3 h = some r → G X d 238 23 [some (.ref 84), none, some (.int v2), some (.int v3)] [] h) {h : Hp} {v2 : Int32} {v3 : Int32} (e : R_238_35 rec_23 v2 v3 h = some r) : G X d 238 35 [some (.ref 84), none, some (.int v2), some (.int v3)] [] h := by
  unfold R_238_35 at e
  obtain ⟨x, h2, e1, e2⟩ := bndI_s e
  refine k_238_35 (by omega) (t_239 e1) ?_
  rintro _ _ ⟨rfl, rfl⟩
  exact r_238_41 hd hq hr_23 e2
noncomputable def R_238_32 (rec_23 : Int32 → Int32 → Hp → Option (Int32 × Hp)) (v2 : Int32) (v3 : Int32) (s0 : Int32) (h : Hp) : Option (Int32 × Hp) := if s0 = 0 then R_238_49 v2 h else R_238_35 rec_23 v2 v3 h
theorem r_238_32 {X : GX} {d : Nat} {r : Int32 × Hp} (hd : 3 ≤ d) (hq : RtX X (some (.int r.1)) r.2) {rec_23 : Int32 → Int32 → Hp → Option (Int32 × Hp)} (hr_23 : ∀ {v2 : Int32} {v3 : Int32} {h : Hp}, rec_23 v2 v3 h = some r → G X d 238 23 [some (.ref 84), none, some (.int v2), some (.int v3)] [] h) {h : Hp} {v2 : Int32} {v3 : Int32} {s0 : Int32} (e : R_238_32 rec_23 v2 v3 s0 h = some r) : G X d 238 32 [some (.ref 84), none, some (.int v2), some (.int v3)] [.int s0] h := by
  unfold R_238_32 at e
  refine k_238_32 (fun c => ?_) (fun c => ?_)
  · rw [if_pos c] at e; exact r_238_49 hd hq e
  · rw [if_neg c] at e; exact r_238_35 hd hq hr_23 e
noncomputable def R_238_27 (rec_23 : Int32 → Int32 → Hp → Option (Int32 × Hp)) (v2 : Int32) (v3 : Int32) (h : Hp) : Option (Int32 × Hp) := bndI (S_239 v3 h) (R_238_32 rec_23 v2 v3)
theorem r_238_27 {X : GX} {d : Nat} {r : Int32 × Hp} (hd : 3 ≤ d) (hq : RtX X (some (.int r.1)) r.2) {rec_23 : Int32 → Int32 → Hp → Option (Int32 × Hp)} (hr_23 : ∀ {v2 : Int32} {v3 : Int32} {h : Hp}, rec_23 v2 v3 h = some r → G X d 238 23 [some (.ref 84), none, some (.int v2), some (.int v3)] [] h) {h : Hp} {v2 : Int32} {v3 : Int32} (e : R_238_27 rec_23 v2 v3 h = some r) : G X d 238 27 [some (.ref 84), none, some (.int v2), some (.int v3)] [] h := by
  unfold R_238_27 at e
  obtain ⟨x, h2, e1, e2⟩ := bndI_s e
  refine k_238_27 (by omega) (t_239 e1) ?_
  rintro _ _ ⟨rfl, rfl⟩
  exact r_238_32 hd hq hr_23 e2
noncomputable def R_238_23 (rec_23 : Int32 → Int32 → Hp → Option (Int32 × Hp)) (v2 : Int32) (v3 : Int32) (h : Hp) : Option (Int32 × Hp) := if v3 < 0 then R_238_49 v2 h else R_238_27 rec_23 v2 v3 h
theorem r_238_23 {X : GX} {d : Nat} {r : Int32 × Hp} (hd : 3 ≤ d) (hq : RtX X (some (.int r.1)) r.2) {rec_23 : Int32 → Int32 → Hp → Option (Int32 × Hp)} (hr_23 : ∀ {v2 : Int32} {v3 : Int32} {h : Hp}, rec_23 v2 v3 h = some r → G X d 238 23 [some (.ref 84), none, some (.int v2), some (.int v3)] [] h) {h : Hp} {v2 : Int32} {v3 : Int32} (e : R_238_23 rec_23 v2 v3 h = some r) : G X d 238 23 [some (.ref 84), none, some (.int v2), some (.int v3)] [] h := by
  unfold R_238_23 at e
  refine k_238_23 (fun c => ?_) (fun c => ?_)
  · rw [if_pos c] at e; exact r_238_49 hd hq e
  · rw [if_neg c] at e; exact r_238_27 hd hq hr_23 e
noncomputable def H_238_23 : Nat → Int32 → Int32 → Hp → Option (Int32 × Hp)
  | 0, _, _, _ => none
  | n + 1, v2, v3, h => R_238_23 (H_238_23 n) v2 v3 h
theorem h_238_23 {X : GX} {d : Nat} {r : Int32 × Hp} (hd : 3 ≤ d) (hq : RtX X (some (.int r.1)) r.2) {n : Nat} {h : Hp} {v2 : Int32} {v3 : Int32} (e : H_238_23 n v2 v3 h = some r) : G X d 238 23 [some (.ref 84), none, some (.int v2), some (.int v3)] [] h := by
  induction n generalizing v2 v3 h with
  | zero => cases e
  | succ n ih => exact r_238_23 hd hq (fun e => ih e) e
noncomputable def R_238_20 (v2 : Int32) (s0 : Int32) (h : Hp) : Option (Int32 × Hp) := H_238_23 fuL v2 (s0 - 1) h
theorem r_238_20 {X : GX} {d : Nat} {r : Int32 × Hp} (hd : 3 ≤ d) (hq : RtX X (some (.int r.1)) r.2) {h : Hp} {v2 : Int32} {s0 : Int32} (e : R_238_20 v2 s0 h = some r) : G X d 238 20 [some (.ref 84), none, some (.int v2), none] [.int s0] h := by
  unfold R_238_20 at e
  exact k_238_20 (h_238_23 hd hq e)
noncomputable def R_238_10 (v1 : Int32) (h : Hp) : Option (Int32 × Hp) := bndI (S_182 v1 3 h) (R_238_20 (1 <<< (v1 &&& 31)))
theorem r_238_10 {X : GX} {d : Nat} {r : Int32 × Hp} (hd : 3 ≤ d) (hq : RtX X (some (.int r.1)) r.2) {h : Hp} {v1 : Int32} (e : R_238_10 v1 h = some r) : G X d 238 10 [some (.ref 84), some (.int v1), none, none] [] h := by
  unfold R_238_10 at e
  obtain ⟨x, h2, e1, e2⟩ := bndI_s e
  refine k_238_10 (by omega) (t_182 e1) ?_
  rintro _ _ ⟨rfl, rfl⟩
  exact r_238_20 hd hq e2
noncomputable def R_238_8 (h : Hp) : Option (Int32 × Hp) := some (((-1)), h)
theorem r_238_8 {X : GX} {d : Nat} {r : Int32 × Hp} (hd : 3 ≤ d) (hq : RtX X (some (.int r.1)) r.2) {h : Hp} (e : R_238_8 h = some r) : G X d 238 8 [none, none, none, none] [] h := by
  unfold R_238_8 at e
  rw [← Option.some.inj e] at hq
  exact k_238_8 hq
noncomputable def R_238_5 (v1 : Int32) (s0 : Int32) (h : Hp) : Option (Int32 × Hp) := if s0 = 0 then R_238_8 h else R_238_10 v1 h
theorem r_238_5 {X : GX} {d : Nat} {r : Int32 × Hp} (hd : 3 ≤ d) (hq : RtX X (some (.int r.1)) r.2) {h : Hp} {v1 : Int32} {s0 : Int32} (e : R_238_5 v1 s0 h = some r) : G X d 238 5 [some (.ref 84), some (.int v1), none, none] [.int s0] h := by
  unfold R_238_5 at e
  refine k_238_5 (fun c => ?_) (fun c => ?_)
  · rw [if_neg c] at e; exact r_238_10 hd hq e
  · rw [if_pos c] at e; exact r_238_8 hd hq e
noncomputable def R_238_0 (v1 : Int32) (h : Hp) : Option (Int32 × Hp) := bndI (S_180 v1 h) (R_238_5 v1)
theorem r_238_0 {X : GX} {d : Nat} {r : Int32 × Hp} (hd : 3 ≤ d) (hq : RtX X (some (.int r.1)) r.2) {h : Hp} {v1 : Int32} (e : R_238_0 v1 h = some r) : G X d 238 0 [some (.ref 84), some (.int v1), none, none] [] h := by
  unfold R_238_0 at e
  obtain ⟨x, h2, e1, e2⟩ := bndI_s e
  refine k_238_0 (by omega) (t_180 e1) ?_
  rintro _ _ ⟨rfl, rfl⟩
  exact r_238_5 hd hq e2
noncomputable def S_238 (v1 : Int32) (h : Hp) : Option (Int32 × Hp) := R_238_0 v1 h
set_option maxRecDepth 100000 in
theorem t_238 {v1 : Int32} {h : Hp} {r : Int32 × Hp} (e : S_238 v1 h = some r) : CI 3 238 [.ref 84, .int v1] h (fun x g => x = r.1 ∧ g = r.2) := by
  refine C.of mo_238 (Nat.le_of_ble_eq_true rfl) (fun X hq => ?_)
  exact r_238_0 (Nat.le_refl _) (hq _ _ ⟨_, rfl, rfl, rfl⟩) e
/-! 243 PlayedTruthModel.size(I)I -/
noncomputable def R_243_9 (v0 : Int32) (h : Hp) : Option (Int32 × Hp) := some (v0, h)
theorem r_243_9 {X : GX} {d : Nat} {r : Int32 × Hp} (hd : 1 ≤ d) (hq : RtX X (some (.int r.1)) r.2) {h : Hp} {v0 : Int32} (e : R_243_9 v0 h = some r) : G X d 243 9 [some (.int v0)] [] h := by
  unfold R_243_9 at e
  rw [← Option.some.inj e] at hq
  exact k_243_9 hq
noncomputable def R_243_4 (v0 : Int32) (h : Hp) : Option (Int32 × Hp) := some ((-v0), h)
theorem r_243_4 {X : GX} {d : Nat} {r : Int32 × Hp} (hd : 1 ≤ d) (hq : RtX X (some (.int r.1)) r.2) {h : Hp} {v0 : Int32} (e : R_243_4 v0 h = some r) : G X d 243 4 [some (.int v0)] [] h := by
  unfold R_243_4 at e
  rw [← Option.some.inj e] at hq
  exact k_243_4 hq
noncomputable def R_243_0 (v0 : Int32) (h : Hp) : Option (Int32 × Hp) := if 0 ≤ v0 then R_243_9 v0 h else R_243_4 v0 h
theorem r_243_0 {X : GX} {d : Nat} {r : Int32 × Hp} (hd : 1 ≤ d) (hq : RtX X (some (.int r.1)) r.2) {h : Hp} {v0 : Int32} (e : R_243_0 v0 h = some r) : G X d 243 0 [some (.int v0)] [] h := by
  unfold R_243_0 at e
  refine k_243_0 (fun c => ?_) (fun c => ?_)
  · rw [if_pos c] at e; exact r_243_9 hd hq e
  · rw [if_neg c] at e; exact r_243_4 hd hq e
noncomputable def S_243 (v0 : Int32) (h : Hp) : Option (Int32 × Hp) := R_243_0 v0 h
set_option maxRecDepth 100000 in
theorem t_243 {v0 : Int32} {h : Hp} {r : Int32 × Hp} (e : S_243 v0 h = some r) : CI 1 243 [.int v0] h (fun x g => x = r.1 ∧ g = r.2) := by
  refine C.of mo_243 (Nat.le_of_ble_eq_true rfl) (fun X hq => ?_)
  exact r_243_0 (Nat.le_refl _) (hq _ _ ⟨_, rfl, rfl, rfl⟩) e
/-! 242 PlayedTruthModel.isClose(II)Z -/
noncomputable def R_242_55 (h : Hp) : Option (Int32 × Hp) := some (0, h)
theorem r_242_55 {X : GX} {d : Nat} {r : Int32 × Hp} (hd : 2 ≤ d) (hq : RtX X (some (.int r.1)) r.2) {h : Hp} (e : R_242_55 h = some r) : G X d 242 55 [none, none, none] [] h := by
  unfold R_242_55 at e
  rw [← Option.some.inj e] at hq
  exact k_242_55 hq
noncomputable def R_242_51 (h : Hp) : Option (Int32 × Hp) := some (1, h)
theorem r_242_51 {X : GX} {d : Nat} {r : Int32 × Hp} (hd : 2 ≤ d) (hq : RtX X (some (.int r.1)) r.2) {h : Hp} (e : R_242_51 h = some r) : G X d 242 51 [none, none, none] [] h := by
  unfold R_242_51 at e
  rw [← Option.some.inj e] at hq
  exact k_242_51 hq
noncomputable def R_242_47 (s0 : Int32) (h : Hp) : Option (Int32 × Hp) := if 3 < s0 then R_242_55 h else R_242_51 h
theorem r_242_47 {X : GX} {d : Nat} {r : Int32 × Hp} (hd : 2 ≤ d) (hq : RtX X (some (.int r.1)) r.2) {h : Hp} {s0 : Int32} (e : R_242_47 s0 h = some r) : G X d 242 47 [none, none, none] [.int s0] h := by
  unfold R_242_47 at e
  refine k_242_47 (fun c => ?_) (fun c => ?_)
  · rw [if_pos c] at e; exact r_242_55 hd hq e
  · rw [if_neg c] at e; exact r_242_51 hd hq e
noncomputable def R_242_43 (s1 : Int32) (s0 : Int32) (h : Hp) : Option (Int32 × Hp) := bndI (S_243 (s1 - s0) h) (R_242_47)
theorem r_242_43 {X : GX} {d : Nat} {r : Int32 × Hp} (hd : 2 ≤ d) (hq : RtX X (some (.int r.1)) r.2) {h : Hp} {s1 : Int32} {s0 : Int32} (e : R_242_43 s1 s0 h = some r) : G X d 242 43 [none, none, none] [.int s0, .int s1] h := by
  unfold R_242_43 at e
  obtain ⟨x, h2, e1, e2⟩ := bndI_s e
  refine k_242_43 (by omega) (t_243 e1) ?_
  rintro _ _ ⟨rfl, rfl⟩
  exact r_242_47 hd hq e2
noncomputable def R_242_37 (v2 : Int32) (s0 : Int32) (h : Hp) : Option (Int32 × Hp) := bndI (S_182 v2 1 h) (R_242_43 s0)
theorem r_242_37 {X : GX} {d : Nat} {r : Int32 × Hp} (hd : 2 ≤ d) (hq : RtX X (some (.int r.1)) r.2) {h : Hp} {v2 : Int32} {s0 : Int32} (e : R_242_37 v2 s0 h = some r) : G X d 242 37 [some (.ref 84), none, some (.int v2)] [.int s0] h := by
  unfold R_242_37 at e
  obtain ⟨x, h2, e1, e2⟩ := bndI_s e
  refine k_242_37 (by omega) (t_182 e1) ?_
  rintro _ _ ⟨rfl, rfl⟩
  exact r_242_43 hd hq e2
noncomputable def R_242_31 (v1 : Int32) (v2 : Int32) (h : Hp) : Option (Int32 × Hp) := bndI (S_182 v1 1 h) (R_242_37 v2)
theorem r_242_31 {X : GX} {d : Nat} {r : Int32 × Hp} (hd : 2 ≤ d) (hq : RtX X (some (.int r.1)) r.2) {h : Hp} {v1 : Int32} {v2 : Int32} (e : R_242_31 v1 v2 h = some r) : G X d 242 31 [some (.ref 84), some (.int v1), some (.int v2)] [] h := by
  unfold R_242_31 at e
  obtain ⟨x, h2, e1, e2⟩ := bndI_s e
  refine k_242_31 (by omega) (t_182 e1) ?_
  rintro _ _ ⟨rfl, rfl⟩
  exact r_242_37 hd hq e2
noncomputable def R_242_28 (v1 : Int32) (v2 : Int32) (s1 : Int32) (s0 : Int32) (h : Hp) : Option (Int32 × Hp) := if s1 = s0 then R_242_51 h else R_242_31 v1 v2 h
theorem r_242_28 {X : GX} {d : Nat} {r : Int32 × Hp} (hd : 2 ≤ d) (hq : RtX X (some (.int r.1)) r.2) {h : Hp} {v1 : Int32} {v2 : Int32} {s1 : Int32} {s0 : Int32} (e : R_242_28 v1 v2 s1 s0 h = some r) : G X d 242 28 [some (.ref 84), some (.int v1), some (.int v2)] [.int s0, .int s1] h := by
  unfold R_242_28 at e
  refine k_242_28 (fun c => ?_) (fun c => ?_)
  · rw [if_pos c] at e; exact r_242_51 hd hq e
  · rw [if_neg c] at e; exact r_242_31 hd hq e
noncomputable def R_242_22 (v1 : Int32) (v2 : Int32) (s0 : Int32) (h : Hp) : Option (Int32 × Hp) := bndI (S_182 v2 3 h) (R_242_28 v1 v2 s0)
theorem r_242_22 {X : GX} {d : Nat} {r : Int32 × Hp} (hd : 2 ≤ d) (hq : RtX X (some (.int r.1)) r.2) {h : Hp} {v1 : Int32} {v2 : Int32} {s0 : Int32} (e : R_242_22 v1 v2 s0 h = some r) : G X d 242 22 [some (.ref 84), some (.int v1), some (.int v2)] [.int s0] h := by
  unfold R_242_22 at e
  obtain ⟨x, h2, e1, e2⟩ := bndI_s e
  refine k_242_22 (by omega) (t_182 e1) ?_
  rintro _ _ ⟨rfl, rfl⟩
  exact r_242_28 hd hq e2
noncomputable def R_242_16 (v1 : Int32) (v2 : Int32) (h : Hp) : Option (Int32 × Hp) := bndI (S_182 v1 3 h) (R_242_22 v1 v2)
theorem r_242_16 {X : GX} {d : Nat} {r : Int32 × Hp} (hd : 2 ≤ d) (hq : RtX X (some (.int r.1)) r.2) {h : Hp} {v1 : Int32} {v2 : Int32} (e : R_242_16 v1 v2 h = some r) : G X d 242 16 [some (.ref 84), some (.int v1), some (.int v2)] [] h := by
  unfold R_242_16 at e
  obtain ⟨x, h2, e1, e2⟩ := bndI_s e
  refine k_242_16 (by omega) (t_182 e1) ?_
  rintro _ _ ⟨rfl, rfl⟩
  exact r_242_22 hd hq e2
noncomputable def R_242_12 (v1 : Int32) (v2 : Int32) (s1 : Int32) (s0 : Int32) (h : Hp) : Option (Int32 × Hp) := if (s1 + s0) = 0 then R_242_16 v1 v2 h else R_242_55 h
theorem r_242_12 {X : GX} {d : Nat} {r : Int32 × Hp} (hd : 2 ≤ d) (hq : RtX X (some (.int r.1)) r.2) {h : Hp} {v1 : Int32} {v2 : Int32} {s1 : Int32} {s0 : Int32} (e : R_242_12 v1 v2 s1 s0 h = some r) : G X d 242 12 [some (.ref 84), some (.int v1), some (.int v2)] [.int s0, .int s1] h := by
  unfold R_242_12 at e
  refine k_242_12 (fun c => ?_) (fun c => ?_)
  · rw [if_neg c] at e; exact r_242_55 hd hq e
  · rw [if_pos c] at e; exact r_242_16 hd hq e
noncomputable def R_242_6 (v1 : Int32) (v2 : Int32) (s0 : Int32) (h : Hp) : Option (Int32 × Hp) := bndI (S_182 v2 4 h) (R_242_12 v1 v2 s0)
theorem r_242_6 {X : GX} {d : Nat} {r : Int32 × Hp} (hd : 2 ≤ d) (hq : RtX X (some (.int r.1)) r.2) {h : Hp} {v1 : Int32} {v2 : Int32} {s0 : Int32} (e : R_242_6 v1 v2 s0 h = some r) : G X d 242 6 [some (.ref 84), some (.int v1), some (.int v2)] [.int s0] h := by
  unfold R_242_6 at e
  obtain ⟨x, h2, e1, e2⟩ := bndI_s e
  refine k_242_6 (by omega) (t_182 e1) ?_
  rintro _ _ ⟨rfl, rfl⟩
  exact r_242_12 hd hq e2
noncomputable def R_242_0 (v1 : Int32) (v2 : Int32) (h : Hp) : Option (Int32 × Hp) := bndI (S_182 v1 4 h) (R_242_6 v1 v2)
theorem r_242_0 {X : GX} {d : Nat} {r : Int32 × Hp} (hd : 2 ≤ d) (hq : RtX X (some (.int r.1)) r.2) {h : Hp} {v1 : Int32} {v2 : Int32} (e : R_242_0 v1 v2 h = some r) : G X d 242 0 [some (.ref 84), some (.int v1), some (.int v2)] [] h := by
  unfold R_242_0 at e
  obtain ⟨x, h2, e1, e2⟩ := bndI_s e
  refine k_242_0 (by omega) (t_182 e1) ?_
  rintro _ _ ⟨rfl, rfl⟩
  exact r_242_6 hd hq e2
noncomputable def S_242 (v1 : Int32) (v2 : Int32) (h : Hp) : Option (Int32 × Hp) := R_242_0 v1 v2 h
set_option maxRecDepth 100000 in
theorem t_242 {v1 : Int32} {v2 : Int32} {h : Hp} {r : Int32 × Hp} (e : S_242 v1 v2 h = some r) : CI 2 242 [.ref 84, .int v1, .int v2] h (fun x g => x = r.1 ∧ g = r.2) := by
  refine C.of mo_242 (Nat.le_of_ble_eq_true rfl) (fun X hq => ?_)
  exact r_242_0 (Nat.le_refl _) (hq _ _ ⟨_, rfl, rfl, rfl⟩) e
/-! 241 PlayedTruthModel.strandOf(I)I -/
noncomputable def R_241_104 (v2 : Int32) (h : Hp) : Option (Int32 × Hp) := some (v2, h)
theorem r_241_104 {X : GX} {d : Nat} {r : Int32 × Hp} (hd : 3 ≤ d) (hq : RtX X (some (.int r.1)) r.2) {h : Hp} {v2 : Int32} (e : R_241_104 v2 h = some r) : G X d 241 104 [none, none, some (.int v2), none, none, none] [] h := by
  unfold R_241_104 at e
  rw [← Option.some.inj e] at hq
  exact k_241_104 hq
noncomputable def R_241_98 (rec_20 : Int32 → Int32 → Hp → Option (Int32 × Hp)) (v2 : Int32) (v3 : Int32) (h : Hp) : Option (Int32 × Hp) := rec_20 v2 (v3 + 1) h
theorem r_241_98 {X : GX} {d : Nat} {r : Int32 × Hp} (hd : 3 ≤ d) (hq : RtX X (some (.int r.1)) r.2) {rec_20 : Int32 → Int32 → Hp → Option (Int32 × Hp)} (hr_20 : ∀ {v2 : Int32} {v3 : Int32} {h : Hp}, rec_20 v2 v3 h = some r → G X d 241 20 [some (.ref 84), none, some (.int v2), some (.int v3), none, none] [] h) {h : Hp} {v2 : Int32} {v3 : Int32} (e : R_241_98 rec_20 v2 v3 h = some r) : G X d 241 98 [some (.ref 84), none, some (.int v2), some (.int v3), none, none] [] h := by
  unfold R_241_98 at e
  exact k_241_98 (hr_20 e)
noncomputable def R_241_92 (rec_20 : Int32 → Int32 → Hp → Option (Int32 × Hp)) (rec_29 : Int32 → Int32 → Int32 → Hp → Option (Int32 × Hp)) (v2 : Int32) (v3 : Int32) (v4 : Int32) (h : Hp) : Option (Int32 × Hp) := rec_29 v2 v3 (v4 + 1) h
theorem r_241_92 {X : GX} {d : Nat} {r : Int32 × Hp} (hd : 3 ≤ d) (hq : RtX X (some (.int r.1)) r.2) {rec_20 : Int32 → Int32 → Hp → Option (Int32 × Hp)} {rec_29 : Int32 → Int32 → Int32 → Hp → Option (Int32 × Hp)} (hr_20 : ∀ {v2 : Int32} {v3 : Int32} {h : Hp}, rec_20 v2 v3 h = some r → G X d 241 20 [some (.ref 84), none, some (.int v2), some (.int v3), none, none] [] h) (hr_29 : ∀ {v2 : Int32} {v3 : Int32} {v4 : Int32} {h : Hp}, rec_29 v2 v3 v4 h = some r → G X d 241 29 [some (.ref 84), none, some (.int v2), some (.int v3), some (.int v4), none] [] h) {h : Hp} {v2 : Int32} {v3 : Int32} {v4 : Int32} (e : R_241_92 rec_20 rec_29 v2 v3 v4 h = some r) : G X d 241 92 [some (.ref 84), none, some (.int v2), some (.int v3), some (.int v4), none] [] h := by
  unfold R_241_92 at e
  exact k_241_92 (hr_29 e)
noncomputable def R_241_83 (rec_20 : Int32 → Int32 → Hp → Option (Int32 × Hp)) (rec_29 : Int32 → Int32 → Int32 → Hp → Option (Int32 × Hp)) (rec_43 : Int32 → Int32 → Int32 → Int32 → Hp → Option (Int32 × Hp)) (v3 : Int32) (v4 : Int32) (v5 : Int32) (s0 : Int32) (h : Hp) : Option (Int32 × Hp) := rec_43 (s0 ||| 0) v3 v4 (v5 + 1) h
theorem r_241_83 {X : GX} {d : Nat} {r : Int32 × Hp} (hd : 3 ≤ d) (hq : RtX X (some (.int r.1)) r.2) {rec_20 : Int32 → Int32 → Hp → Option (Int32 × Hp)} {rec_29 : Int32 → Int32 → Int32 → Hp → Option (Int32 × Hp)} {rec_43 : Int32 → Int32 → Int32 → Int32 → Hp → Option (Int32 × Hp)} (hr_20 : ∀ {v2 : Int32} {v3 : Int32} {h : Hp}, rec_20 v2 v3 h = some r → G X d 241 20 [some (.ref 84), none, some (.int v2), some (.int v3), none, none] [] h) (hr_29 : ∀ {v2 : Int32} {v3 : Int32} {v4 : Int32} {h : Hp}, rec_29 v2 v3 v4 h = some r → G X d 241 29 [some (.ref 84), none, some (.int v2), some (.int v3), some (.int v4), none] [] h) (hr_43 : ∀ {v2 : Int32} {v3 : Int32} {v4 : Int32} {v5 : Int32} {h : Hp}, rec_43 v2 v3 v4 v5 h = some r → G X d 241 43 [some (.ref 84), none, some (.int v2), some (.int v3), some (.int v4), some (.int v5)] [] h) {h : Hp} {v3 : Int32} {v4 : Int32} {v5 : Int32} {s0 : Int32} (e : R_241_83 rec_20 rec_29 rec_43 v3 v4 v5 s0 h = some r) : G X d 241 83 [some (.ref 84), none, none, some (.int v3), some (.int v4), some (.int v5)] [.int s0] h := by
  unfold R_241_83 at e
  exact k_241_83 (hr_43 e)
noncomputable def R_241_76 (rec_20 : Int32 → Int32 → Hp → Option (Int32 × Hp)) (rec_29 : Int32 → Int32 → Int32 → Hp → Option (Int32 × Hp)) (rec_43 : Int32 → Int32 → Int32 → Int32 → Hp → Option (Int32 × Hp)) (v3 : Int32) (v4 : Int32) (v5 : Int32) (s0 : Int32) (h : Hp) : Option (Int32 × Hp) := rec_43 (s0 ||| (1 <<< (v5 &&& 31))) v3 v4 (v5 + 1) h
theorem r_241_76 {X : GX} {d : Nat} {r : Int32 × Hp} (hd : 3 ≤ d) (hq : RtX X (some (.int r.1)) r.2) {rec_20 : Int32 → Int32 → Hp → Option (Int32 × Hp)} {rec_29 : Int32 → Int32 → Int32 → Hp → Option (Int32 × Hp)} {rec_43 : Int32 → Int32 → Int32 → Int32 → Hp → Option (Int32 × Hp)} (hr_20 : ∀ {v2 : Int32} {v3 : Int32} {h : Hp}, rec_20 v2 v3 h = some r → G X d 241 20 [some (.ref 84), none, some (.int v2), some (.int v3), none, none] [] h) (hr_29 : ∀ {v2 : Int32} {v3 : Int32} {v4 : Int32} {h : Hp}, rec_29 v2 v3 v4 h = some r → G X d 241 29 [some (.ref 84), none, some (.int v2), some (.int v3), some (.int v4), none] [] h) (hr_43 : ∀ {v2 : Int32} {v3 : Int32} {v4 : Int32} {v5 : Int32} {h : Hp}, rec_43 v2 v3 v4 v5 h = some r → G X d 241 43 [some (.ref 84), none, some (.int v2), some (.int v3), some (.int v4), some (.int v5)] [] h) {h : Hp} {v3 : Int32} {v4 : Int32} {v5 : Int32} {s0 : Int32} (e : R_241_76 rec_20 rec_29 rec_43 v3 v4 v5 s0 h = some r) : G X d 241 76 [some (.ref 84), none, none, some (.int v3), some (.int v4), some (.int v5)] [.int s0] h := by
  unfold R_241_76 at e
  exact k_241_76 (hr_43 e)
noncomputable def R_241_73 (rec_20 : Int32 → Int32 → Hp → Option (Int32 × Hp)) (rec_29 : Int32 → Int32 → Int32 → Hp → Option (Int32 × Hp)) (rec_43 : Int32 → Int32 → Int32 → Int32 → Hp → Option (Int32 × Hp)) (v3 : Int32) (v4 : Int32) (v5 : Int32) (s1 : Int32) (s0 : Int32) (h : Hp) : Option (Int32 × Hp) := if s0 = 0 then R_241_83 rec_20 rec_29 rec_43 v3 v4 v5 s1 h else R_241_76 rec_20 rec_29 rec_43 v3 v4 v5 s1 h
theorem r_241_73 {X : GX} {d : Nat} {r : Int32 × Hp} (hd : 3 ≤ d) (hq : RtX X (some (.int r.1)) r.2) {rec_20 : Int32 → Int32 → Hp → Option (Int32 × Hp)} {rec_29 : Int32 → Int32 → Int32 → Hp → Option (Int32 × Hp)} {rec_43 : Int32 → Int32 → Int32 → Int32 → Hp → Option (Int32 × Hp)} (hr_20 : ∀ {v2 : Int32} {v3 : Int32} {h : Hp}, rec_20 v2 v3 h = some r → G X d 241 20 [some (.ref 84), none, some (.int v2), some (.int v3), none, none] [] h) (hr_29 : ∀ {v2 : Int32} {v3 : Int32} {v4 : Int32} {h : Hp}, rec_29 v2 v3 v4 h = some r → G X d 241 29 [some (.ref 84), none, some (.int v2), some (.int v3), some (.int v4), none] [] h) (hr_43 : ∀ {v2 : Int32} {v3 : Int32} {v4 : Int32} {v5 : Int32} {h : Hp}, rec_43 v2 v3 v4 v5 h = some r → G X d 241 43 [some (.ref 84), none, some (.int v2), some (.int v3), some (.int v4), some (.int v5)] [] h) {h : Hp} {v3 : Int32} {v4 : Int32} {v5 : Int32} {s1 : Int32} {s0 : Int32} (e : R_241_73 rec_20 rec_29 rec_43 v3 v4 v5 s1 s0 h = some r) : G X d 241 73 [some (.ref 84), none, none, some (.int v3), some (.int v4), some (.int v5)] [.int s0, .int s1] h := by
  unfold R_241_73 at e
  refine k_241_73 (fun c => ?_) (fun c => ?_)
  · rw [if_pos c] at e; exact r_241_83 hd hq hr_20 hr_29 hr_43 e
  · rw [if_neg c] at e; exact r_241_76 hd hq hr_20 hr_29 hr_43 e
noncomputable def R_241_65 (rec_20 : Int32 → Int32 → Hp → Option (Int32 × Hp)) (rec_29 : Int32 → Int32 → Int32 → Hp → Option (Int32 × Hp)) (rec_43 : Int32 → Int32 → Int32 → Int32 → Hp → Option (Int32 × Hp)) (v3 : Int32) (v4 : Int32) (v5 : Int32) (s0 : Int32) (h : Hp) : Option (Int32 × Hp) := bndI (S_242 v4 v5 h) (R_241_73 rec_20 rec_29 rec_43 v3 v4 v5 s0)
theorem r_241_65 {X : GX} {d : Nat} {r : Int32 × Hp} (hd : 3 ≤ d) (hq : RtX X (some (.int r.1)) r.2) {rec_20 : Int32 → Int32 → Hp → Option (Int32 × Hp)} {rec_29 : Int32 → Int32 → Int32 → Hp → Option (Int32 × Hp)} {rec_43 : Int32 → Int32 → Int32 → Int32 → Hp → Option (Int32 × Hp)} (hr_20 : ∀ {v2 : Int32} {v3 : Int32} {h : Hp}, rec_20 v2 v3 h = some r → G X d 241 20 [some (.ref 84), none, some (.int v2), some (.int v3), none, none] [] h) (hr_29 : ∀ {v2 : Int32} {v3 : Int32} {v4 : Int32} {h : Hp}, rec_29 v2 v3 v4 h = some r → G X d 241 29 [some (.ref 84), none, some (.int v2), some (.int v3), some (.int v4), none] [] h) (hr_43 : ∀ {v2 : Int32} {v3 : Int32} {v4 : Int32} {v5 : Int32} {h : Hp}, rec_43 v2 v3 v4 v5 h = some r → G X d 241 43 [some (.ref 84), none, some (.int v2), some (.int v3), some (.int v4), some (.int v5)] [] h) {h : Hp} {v3 : Int32} {v4 : Int32} {v5 : Int32} {s0 : Int32} (e : R_241_65 rec_20 rec_29 rec_43 v3 v4 v5 s0 h = some r) : G X d 241 65 [some (.ref 84), none, none, some (.int v3), some (.int v4), some (.int v5)] [.int s0] h := by
  unfold R_241_65 at e
  obtain ⟨x, h2, e1, e2⟩ := bndI_s e
  refine k_241_65 (by omega) (t_242 e1) ?_
  rintro _ _ ⟨rfl, rfl⟩
  exact r_241_73 hd hq hr_20 hr_29 hr_43 e2
noncomputable def R_241_54 (rec_20 : Int32 → Int32 → Hp → Option (Int32 × Hp)) (rec_29 : Int32 → Int32 → Int32 → Hp → Option (Int32 × Hp)) (rec_43 : Int32 → Int32 → Int32 → Int32 → Hp → Option (Int32 × Hp)) (v2 : Int32) (v3 : Int32) (v4 : Int32) (v5 : Int32) (h : Hp) : Option (Int32 × Hp) := if ((v2 >>> (v4 &&& 31)) &&& 1) = 1 then R_241_65 rec_20 rec_29 rec_43 v3 v4 v5 v2 h else R_241_83 rec_20 rec_29 rec_43 v3 v4 v5 v2 h
theorem r_241_54 {X : GX} {d : Nat} {r : Int32 × Hp} (hd : 3 ≤ d) (hq : RtX X (some (.int r.1)) r.2) {rec_20 : Int32 → Int32 → Hp → Option (Int32 × Hp)} {rec_29 : Int32 → Int32 → Int32 → Hp → Option (Int32 × Hp)} {rec_43 : Int32 → Int32 → Int32 → Int32 → Hp → Option (Int32 × Hp)} (hr_20 : ∀ {v2 : Int32} {v3 : Int32} {h : Hp}, rec_20 v2 v3 h = some r → G X d 241 20 [some (.ref 84), none, some (.int v2), some (.int v3), none, none] [] h) (hr_29 : ∀ {v2 : Int32} {v3 : Int32} {v4 : Int32} {h : Hp}, rec_29 v2 v3 v4 h = some r → G X d 241 29 [some (.ref 84), none, some (.int v2), some (.int v3), some (.int v4), none] [] h) (hr_43 : ∀ {v2 : Int32} {v3 : Int32} {v4 : Int32} {v5 : Int32} {h : Hp}, rec_43 v2 v3 v4 v5 h = some r → G X d 241 43 [some (.ref 84), none, some (.int v2), some (.int v3), some (.int v4), some (.int v5)] [] h) {h : Hp} {v2 : Int32} {v3 : Int32} {v4 : Int32} {v5 : Int32} (e : R_241_54 rec_20 rec_29 rec_43 v2 v3 v4 v5 h = some r) : G X d 241 54 [some (.ref 84), none, some (.int v2), some (.int v3), some (.int v4), some (.int v5)] [] h := by
  unfold R_241_54 at e
  refine k_241_54 (fun c => ?_) (fun c => ?_)
  · rw [if_neg c] at e; exact r_241_83 hd hq hr_20 hr_29 hr_43 e
  · rw [if_pos c] at e; exact r_241_65 hd hq hr_20 hr_29 hr_43 e
noncomputable def R_241_43 (rec_20 : Int32 → Int32 → Hp → Option (Int32 × Hp)) (rec_29 : Int32 → Int32 → Int32 → Hp → Option (Int32 × Hp)) (rec_43 : Int32 → Int32 → Int32 → Int32 → Hp → Option (Int32 × Hp)) (v2 : Int32) (v3 : Int32) (v4 : Int32) (v5 : Int32) (h : Hp) : Option (Int32 × Hp) := gd (IA 85 0) (if (h 85 (Int32.toNatClampNeg 0)) ≤ v5 then R_241_92 rec_20 rec_29 v2 v3 v4 h else R_241_54 rec_20 rec_29 rec_43 v2 v3 v4 v5 h)
theorem r_241_43 {X : GX} {d : Nat} {r : Int32 × Hp} (hd : 3 ≤ d) (hq : RtX X (some (.int r.1)) r.2) {rec_20 : Int32 → Int32 → Hp → Option (Int32 × Hp)} {rec_29 : Int32 → Int32 → Int32 → Hp → Option (Int32 × Hp)} {rec_43 : Int32 → Int32 → Int32 → Int32 → Hp → Option (Int32 × Hp)} (hr_20 : ∀ {v2 : Int32} {v3 : Int32} {h : Hp}, rec_20 v2 v3 h = some r → G X d 241 20 [some (.ref 84), none, some (.int v2), some (.int v3), none, none] [] h) (hr_29 : ∀ {v2 : Int32} {v3 : Int32} {v4 : Int32} {h : Hp}, rec_29 v2 v3 v4 h = some r → G X d 241 29 [some (.ref 84), none, some (.int v2), some (.int v3), some (.int v4), none] [] h) (hr_43 : ∀ {v2 : Int32} {v3 : Int32} {v4 : Int32} {v5 : Int32} {h : Hp}, rec_43 v2 v3 v4 v5 h = some r → G X d 241 43 [some (.ref 84), none, some (.int v2), some (.int v3), some (.int v4), some (.int v5)] [] h) {h : Hp} {v2 : Int32} {v3 : Int32} {v4 : Int32} {v5 : Int32} (e : R_241_43 rec_20 rec_29 rec_43 v2 v3 v4 v5 h = some r) : G X d 241 43 [some (.ref 84), none, some (.int v2), some (.int v3), some (.int v4), some (.int v5)] [] h := by
  unfold R_241_43 at e
  have g := gd_s e; clear e; obtain ⟨b0, e⟩ := g
  refine k_241_43 b0 (fun c => ?_) (fun c => ?_)
  · rw [if_pos c] at e; exact r_241_92 hd hq hr_20 hr_29 e
  · rw [if_neg c] at e; exact r_241_54 hd hq hr_20 hr_29 hr_43 e
noncomputable def H_241_43 (rec_20 : Int32 → Int32 → Hp → Option (Int32 × Hp)) (rec_29 : Int32 → Int32 → Int32 → Hp → Option (Int32 × Hp)) : Nat → Int32 → Int32 → Int32 → Int32 → Hp → Option (Int32 × Hp)
  | 0, _, _, _, _, _ => none
  | n + 1, v2, v3, v4, v5, h => R_241_43 rec_20 rec_29 (H_241_43 rec_20 rec_29 n) v2 v3 v4 v5 h
theorem h_241_43 {X : GX} {d : Nat} {r : Int32 × Hp} (hd : 3 ≤ d) (hq : RtX X (some (.int r.1)) r.2) {rec_20 : Int32 → Int32 → Hp → Option (Int32 × Hp)} {rec_29 : Int32 → Int32 → Int32 → Hp → Option (Int32 × Hp)} (hr_20 : ∀ {v2 : Int32} {v3 : Int32} {h : Hp}, rec_20 v2 v3 h = some r → G X d 241 20 [some (.ref 84), none, some (.int v2), some (.int v3), none, none] [] h) (hr_29 : ∀ {v2 : Int32} {v3 : Int32} {v4 : Int32} {h : Hp}, rec_29 v2 v3 v4 h = some r → G X d 241 29 [some (.ref 84), none, some (.int v2), some (.int v3), some (.int v4), none] [] h) {n : Nat} {h : Hp} {v2 : Int32} {v3 : Int32} {v4 : Int32} {v5 : Int32} (e : H_241_43 rec_20 rec_29 n v2 v3 v4 v5 h = some r) : G X d 241 43 [some (.ref 84), none, some (.int v2), some (.int v3), some (.int v4), some (.int v5)] [] h := by
  induction n generalizing v2 v3 v4 v5 h with
  | zero => cases e
  | succ n ih => exact r_241_43 hd hq hr_20 hr_29 (fun e => ih e) e
noncomputable def R_241_40 (rec_20 : Int32 → Int32 → Hp → Option (Int32 × Hp)) (rec_29 : Int32 → Int32 → Int32 → Hp → Option (Int32 × Hp)) (v2 : Int32) (v3 : Int32) (v4 : Int32) (h : Hp) : Option (Int32 × Hp) := H_241_43 rec_20 rec_29 fuL v2 v3 v4 0 h
theorem r_241_40 {X : GX} {d : Nat} {r : Int32 × Hp} (hd : 3 ≤ d) (hq : RtX X (some (.int r.1)) r.2) {rec_20 : Int32 → Int32 → Hp → Option (Int32 × Hp)} {rec_29 : Int32 → Int32 → Int32 → Hp → Option (Int32 × Hp)} (hr_20 : ∀ {v2 : Int32} {v3 : Int32} {h : Hp}, rec_20 v2 v3 h = some r → G X d 241 20 [some (.ref 84), none, some (.int v2), some (.int v3), none, none] [] h) (hr_29 : ∀ {v2 : Int32} {v3 : Int32} {v4 : Int32} {h : Hp}, rec_29 v2 v3 v4 h = some r → G X d 241 29 [some (.ref 84), none, some (.int v2), some (.int v3), some (.int v4), none] [] h) {h : Hp} {v2 : Int32} {v3 : Int32} {v4 : Int32} (e : R_241_40 rec_20 rec_29 v2 v3 v4 h = some r) : G X d 241 40 [some (.ref 84), none, some (.int v2), some (.int v3), some (.int v4), none] [] h := by
  unfold R_241_40 at e
  exact k_241_40 (h_241_43 hd hq hr_20 hr_29 e)
noncomputable def R_241_29 (rec_20 : Int32 → Int32 → Hp → Option (Int32 × Hp)) (rec_29 : Int32 → Int32 → Int32 → Hp → Option (Int32 × Hp)) (v2 : Int32) (v3 : Int32) (v4 : Int32) (h : Hp) : Option (Int32 × Hp) := gd (IA 85 0) (if (h 85 (Int32.toNatClampNeg 0)) ≤ v4 then R_241_98 rec_20 v2 v3 h else R_241_40 rec_20 rec_29 v2 v3 v4 h)
theorem r_241_29 {X : GX} {d : Nat} {r : Int32 × Hp} (hd : 3 ≤ d) (hq : RtX X (some (.int r.1)) r.2) {rec_20 : Int32 → Int32 → Hp → Option (Int32 × Hp)} {rec_29 : Int32 → Int32 → Int32 → Hp → Option (Int32 × Hp)} (hr_20 : ∀ {v2 : Int32} {v3 : Int32} {h : Hp}, rec_20 v2 v3 h = some r → G X d 241 20 [some (.ref 84), none, some (.int v2), some (.int v3), none, none] [] h) (hr_29 : ∀ {v2 : Int32} {v3 : Int32} {v4 : Int32} {h : Hp}, rec_29 v2 v3 v4 h = some r → G X d 241 29 [some (.ref 84), none, some (.int v2), some (.int v3), some (.int v4), none] [] h) {h : Hp} {v2 : Int32} {v3 : Int32} {v4 : Int32} (e : R_241_29 rec_20 rec_29 v2 v3 v4 h = some r) : G X d 241 29 [some (.ref 84), none, some (.int v2), some (.int v3), some (.int v4), none] [] h := by
  unfold R_241_29 at e
  have g := gd_s e; clear e; obtain ⟨b0, e⟩ := g
  refine k_241_29 b0 (fun c => ?_) (fun c => ?_)
  · rw [if_pos c] at e; exact r_241_98 hd hq hr_20 e
  · rw [if_neg c] at e; exact r_241_40 hd hq hr_20 hr_29 e
noncomputable def H_241_29 (rec_20 : Int32 → Int32 → Hp → Option (Int32 × Hp)) : Nat → Int32 → Int32 → Int32 → Hp → Option (Int32 × Hp)
  | 0, _, _, _, _ => none
  | n + 1, v2, v3, v4, h => R_241_29 rec_20 (H_241_29 rec_20 n) v2 v3 v4 h
theorem h_241_29 {X : GX} {d : Nat} {r : Int32 × Hp} (hd : 3 ≤ d) (hq : RtX X (some (.int r.1)) r.2) {rec_20 : Int32 → Int32 → Hp → Option (Int32 × Hp)} (hr_20 : ∀ {v2 : Int32} {v3 : Int32} {h : Hp}, rec_20 v2 v3 h = some r → G X d 241 20 [some (.ref 84), none, some (.int v2), some (.int v3), none, none] [] h) {n : Nat} {h : Hp} {v2 : Int32} {v3 : Int32} {v4 : Int32} (e : H_241_29 rec_20 n v2 v3 v4 h = some r) : G X d 241 29 [some (.ref 84), none, some (.int v2), some (.int v3), some (.int v4), none] [] h := by
  induction n generalizing v2 v3 v4 h with
  | zero => cases e
  | succ n ih => exact r_241_29 hd hq hr_20 (fun e => ih e) e
noncomputable def R_241_26 (rec_20 : Int32 → Int32 → Hp → Option (Int32 × Hp)) (v2 : Int32) (v3 : Int32) (h : Hp) : Option (Int32 × Hp) := H_241_29 rec_20 fuL v2 v3 0 h
theorem r_241_26 {X : GX} {d : Nat} {r : Int32 × Hp} (hd : 3 ≤ d) (hq : RtX X (some (.int r.1)) r.2) {rec_20 : Int32 → Int32 → Hp → Option (Int32 × Hp)} (hr_20 : ∀ {v2 : Int32} {v3 : Int32} {h : Hp}, rec_20 v2 v3 h = some r → G X d 241 20 [some (.ref 84), none, some (.int v2), some (.int v3), none, none] [] h) {h : Hp} {v2 : Int32} {v3 : Int32} (e : R_241_26 rec_20 v2 v3 h = some r) : G X d 241 26 [some (.ref 84), none, some (.int v2), some (.int v3), none, none] [] h := by
  unfold R_241_26 at e
  exact k_241_26 (h_241_29 hd hq hr_20 e)
noncomputable def R_241_20 (rec_20 : Int32 → Int32 → Hp → Option (Int32 × Hp)) (v2 : Int32) (v3 : Int32) (h : Hp) : Option (Int32 × Hp) := if 6 ≤ v3 then R_241_104 v2 h else R_241_26 rec_20 v2 v3 h
theorem r_241_20 {X : GX} {d : Nat} {r : Int32 × Hp} (hd : 3 ≤ d) (hq : RtX X (some (.int r.1)) r.2) {rec_20 : Int32 → Int32 → Hp → Option (Int32 × Hp)} (hr_20 : ∀ {v2 : Int32} {v3 : Int32} {h : Hp}, rec_20 v2 v3 h = some r → G X d 241 20 [some (.ref 84), none, some (.int v2), some (.int v3), none, none] [] h) {h : Hp} {v2 : Int32} {v3 : Int32} (e : R_241_20 rec_20 v2 v3 h = some r) : G X d 241 20 [some (.ref 84), none, some (.int v2), some (.int v3), none, none] [] h := by
  unfold R_241_20 at e
  refine k_241_20 (fun c => ?_) (fun c => ?_)
  · rw [if_pos c] at e; exact r_241_104 hd hq e
  · rw [if_neg c] at e; exact r_241_26 hd hq hr_20 e
noncomputable def H_241_20 : Nat → Int32 → Int32 → Hp → Option (Int32 × Hp)
  | 0, _, _, _ => none
  | n + 1, v2, v3, h => R_241_20 (H_241_20 n) v2 v3 h
theorem h_241_20 {X : GX} {d : Nat} {r : Int32 × Hp} (hd : 3 ≤ d) (hq : RtX X (some (.int r.1)) r.2) {n : Nat} {h : Hp} {v2 : Int32} {v3 : Int32} (e : H_241_20 n v2 v3 h = some r) : G X d 241 20 [some (.ref 84), none, some (.int v2), some (.int v3), none, none] [] h := by
  induction n generalizing v2 v3 h with
  | zero => cases e
  | succ n ih => exact r_241_20 hd hq (fun e => ih e) e
noncomputable def R_241_14 (v1 : Int32) (h : Hp) : Option (Int32 × Hp) := H_241_20 fuL (1 <<< (v1 &&& 31)) 0 h
theorem r_241_14 {X : GX} {d : Nat} {r : Int32 × Hp} (hd : 3 ≤ d) (hq : RtX X (some (.int r.1)) r.2) {h : Hp} {v1 : Int32} (e : R_241_14 v1 h = some r) : G X d 241 14 [some (.ref 84), some (.int v1), none, none, none, none] [] h := by
  unfold R_241_14 at e
  exact k_241_14 (h_241_20 hd hq e)
noncomputable def R_241_10 (h : Hp) : Option (Int32 × Hp) := H_241_20 fuL 0 0 h
theorem r_241_10 {X : GX} {d : Nat} {r : Int32 × Hp} (hd : 3 ≤ d) (hq : RtX X (some (.int r.1)) r.2) {h : Hp} (e : R_241_10 h = some r) : G X d 241 10 [some (.ref 84), none, none, none, none, none] [] h := by
  unfold R_241_10 at e
  exact k_241_10 (h_241_20 hd hq e)
noncomputable def R_241_6 (v1 : Int32) (s0 : Int32) (h : Hp) : Option (Int32 × Hp) := if s0 = 1 then R_241_10 h else R_241_14 v1 h
theorem r_241_6 {X : GX} {d : Nat} {r : Int32 × Hp} (hd : 3 ≤ d) (hq : RtX X (some (.int r.1)) r.2) {h : Hp} {v1 : Int32} {s0 : Int32} (e : R_241_6 v1 s0 h = some r) : G X d 241 6 [some (.ref 84), some (.int v1), none, none, none, none] [.int s0] h := by
  unfold R_241_6 at e
  refine k_241_6 (fun c => ?_) (fun c => ?_)
  · rw [if_neg c] at e; exact r_241_14 hd hq e
  · rw [if_pos c] at e; exact r_241_10 hd hq e
noncomputable def R_241_0 (v1 : Int32) (h : Hp) : Option (Int32 × Hp) := bndI (S_182 v1 4 h) (R_241_6 v1)
theorem r_241_0 {X : GX} {d : Nat} {r : Int32 × Hp} (hd : 3 ≤ d) (hq : RtX X (some (.int r.1)) r.2) {h : Hp} {v1 : Int32} (e : R_241_0 v1 h = some r) : G X d 241 0 [some (.ref 84), some (.int v1), none, none, none, none] [] h := by
  unfold R_241_0 at e
  obtain ⟨x, h2, e1, e2⟩ := bndI_s e
  refine k_241_0 (by omega) (t_182 e1) ?_
  rintro _ _ ⟨rfl, rfl⟩
  exact r_241_6 hd hq e2
noncomputable def S_241 (v1 : Int32) (h : Hp) : Option (Int32 × Hp) := R_241_0 v1 h
set_option maxRecDepth 100000 in
theorem t_241 {v1 : Int32} {h : Hp} {r : Int32 × Hp} (e : S_241 v1 h = some r) : CI 3 241 [.ref 84, .int v1] h (fun x g => x = r.1 ∧ g = r.2) := by
  refine C.of mo_241 (Nat.le_of_ble_eq_true rfl) (fun X hq => ?_)
  exact r_241_0 (Nat.le_refl _) (hq _ _ ⟨_, rfl, rfl, rfl⟩) e
/-! 240 PlayedTruthModel.strands(I)I -/
noncomputable def R_240_92 (v3 : Int32) (h : Hp) : Option (Int32 × Hp) := some (v3, h)
theorem r_240_92 {X : GX} {d : Nat} {r : Int32 × Hp} (hd : 4 ≤ d) (hq : RtX X (some (.int r.1)) r.2) {h : Hp} {v3 : Int32} (e : R_240_92 v3 h = some r) : G X d 240 92 [none, none, none, some (.int v3), none] [] h := by
  unfold R_240_92 at e
  rw [← Option.some.inj e] at hq
  exact k_240_92 hq
noncomputable def R_240_84 (rec_39 : Int32 → Int32 → Int32 → Hp → Option (Int32 × Hp)) (v3 : Int32) (v4 : Int32) (s1 : Int32) (s0 : Int32) (h : Hp) : Option (Int32 × Hp) := rec_39 (s1 ||| s0) v3 (v4 + 1) h
theorem r_240_84 {X : GX} {d : Nat} {r : Int32 × Hp} (hd : 4 ≤ d) (hq : RtX X (some (.int r.1)) r.2) {rec_39 : Int32 → Int32 → Int32 → Hp → Option (Int32 × Hp)} (hr_39 : ∀ {v2 : Int32} {v3 : Int32} {v4 : Int32} {h : Hp}, rec_39 v2 v3 v4 h = some r → G X d 240 39 [some (.ref 84), none, some (.int v2), some (.int v3), some (.int v4)] [] h) {h : Hp} {v3 : Int32} {v4 : Int32} {s1 : Int32} {s0 : Int32} (e : R_240_84 rec_39 v3 v4 s1 s0 h = some r) : G X d 240 84 [some (.ref 84), none, none, some (.int v3), some (.int v4)] [.int s0, .int s1] h := by
  unfold R_240_84 at e
  exact k_240_84 (hr_39 e)
noncomputable def R_240_74 (rec_39 : Int32 → Int32 → Int32 → Hp → Option (Int32 × Hp)) (v2 : Int32) (v4 : Int32) (s0 : Int32) (h : Hp) : Option (Int32 × Hp) := bndI (S_241 v4 h) (R_240_84 rec_39 (s0 + 0) v4 v2)
theorem r_240_74 {X : GX} {d : Nat} {r : Int32 × Hp} (hd : 4 ≤ d) (hq : RtX X (some (.int r.1)) r.2) {rec_39 : Int32 → Int32 → Int32 → Hp → Option (Int32 × Hp)} (hr_39 : ∀ {v2 : Int32} {v3 : Int32} {v4 : Int32} {h : Hp}, rec_39 v2 v3 v4 h = some r → G X d 240 39 [some (.ref 84), none, some (.int v2), some (.int v3), some (.int v4)] [] h) {h : Hp} {v2 : Int32} {v4 : Int32} {s0 : Int32} (e : R_240_74 rec_39 v2 v4 s0 h = some r) : G X d 240 74 [some (.ref 84), none, some (.int v2), none, some (.int v4)] [.int s0] h := by
  unfold R_240_74 at e
  obtain ⟨x, h2, e1, e2⟩ := bndI_s e
  refine k_240_74 (by omega) (t_241 e1) ?_
  rintro _ _ ⟨rfl, rfl⟩
  exact r_240_84 hd hq hr_39 e2
noncomputable def R_240_70 (rec_39 : Int32 → Int32 → Int32 → Hp → Option (Int32 × Hp)) (v2 : Int32) (v4 : Int32) (s0 : Int32) (h : Hp) : Option (Int32 × Hp) := bndI (S_241 v4 h) (R_240_84 rec_39 (s0 + 1) v4 v2)
theorem r_240_70 {X : GX} {d : Nat} {r : Int32 × Hp} (hd : 4 ≤ d) (hq : RtX X (some (.int r.1)) r.2) {rec_39 : Int32 → Int32 → Int32 → Hp → Option (Int32 × Hp)} (hr_39 : ∀ {v2 : Int32} {v3 : Int32} {v4 : Int32} {h : Hp}, rec_39 v2 v3 v4 h = some r → G X d 240 39 [some (.ref 84), none, some (.int v2), some (.int v3), some (.int v4)] [] h) {h : Hp} {v2 : Int32} {v4 : Int32} {s0 : Int32} (e : R_240_70 rec_39 v2 v4 s0 h = some r) : G X d 240 70 [some (.ref 84), none, some (.int v2), none, some (.int v4)] [.int s0] h := by
  unfold R_240_70 at e
  obtain ⟨x, h2, e1, e2⟩ := bndI_s e
  refine k_240_70 (by omega) (t_241 e1) ?_
  rintro _ _ ⟨rfl, rfl⟩
  exact r_240_84 hd hq hr_39 e2
noncomputable def R_240_61 (rec_39 : Int32 → Int32 → Int32 → Hp → Option (Int32 × Hp)) (v2 : Int32) (v4 : Int32) (s0 : Int32) (h : Hp) : Option (Int32 × Hp) := if ((v2 >>> (v4 &&& 31)) &&& 1) = 0 then R_240_70 rec_39 v2 v4 s0 h else R_240_74 rec_39 v2 v4 s0 h
theorem r_240_61 {X : GX} {d : Nat} {r : Int32 × Hp} (hd : 4 ≤ d) (hq : RtX X (some (.int r.1)) r.2) {rec_39 : Int32 → Int32 → Int32 → Hp → Option (Int32 × Hp)} (hr_39 : ∀ {v2 : Int32} {v3 : Int32} {v4 : Int32} {h : Hp}, rec_39 v2 v3 v4 h = some r → G X d 240 39 [some (.ref 84), none, some (.int v2), some (.int v3), some (.int v4)] [] h) {h : Hp} {v2 : Int32} {v4 : Int32} {s0 : Int32} (e : R_240_61 rec_39 v2 v4 s0 h = some r) : G X d 240 61 [some (.ref 84), none, some (.int v2), none, some (.int v4)] [.int s0] h := by
  unfold R_240_61 at e
  refine k_240_61 (fun c => ?_) (fun c => ?_)
  · rw [if_neg c] at e; exact r_240_74 hd hq hr_39 e
  · rw [if_pos c] at e; exact r_240_70 hd hq hr_39 e
noncomputable def R_240_58 (rec_39 : Int32 → Int32 → Int32 → Hp → Option (Int32 × Hp)) (v2 : Int32) (v4 : Int32) (s1 : Int32) (s0 : Int32) (h : Hp) : Option (Int32 × Hp) := if s0 = 0 then R_240_61 rec_39 v2 v4 s1 h else R_240_74 rec_39 v2 v4 s1 h
theorem r_240_58 {X : GX} {d : Nat} {r : Int32 × Hp} (hd : 4 ≤ d) (hq : RtX X (some (.int r.1)) r.2) {rec_39 : Int32 → Int32 → Int32 → Hp → Option (Int32 × Hp)} (hr_39 : ∀ {v2 : Int32} {v3 : Int32} {v4 : Int32} {h : Hp}, rec_39 v2 v3 v4 h = some r → G X d 240 39 [some (.ref 84), none, some (.int v2), some (.int v3), some (.int v4)] [] h) {h : Hp} {v2 : Int32} {v4 : Int32} {s1 : Int32} {s0 : Int32} (e : R_240_58 rec_39 v2 v4 s1 s0 h = some r) : G X d 240 58 [some (.ref 84), none, some (.int v2), none, some (.int v4)] [.int s0, .int s1] h := by
  unfold R_240_58 at e
  refine k_240_58 (fun c => ?_) (fun c => ?_)
  · rw [if_neg c] at e; exact r_240_74 hd hq hr_39 e
  · rw [if_pos c] at e; exact r_240_61 hd hq hr_39 e
noncomputable def R_240_50 (rec_39 : Int32 → Int32 → Int32 → Hp → Option (Int32 × Hp)) (v2 : Int32) (v3 : Int32) (v4 : Int32) (h : Hp) : Option (Int32 × Hp) := bndI (S_182 v4 4 h) (R_240_58 rec_39 v2 v4 v3)
theorem r_240_50 {X : GX} {d : Nat} {r : Int32 × Hp} (hd : 4 ≤ d) (hq : RtX X (some (.int r.1)) r.2) {rec_39 : Int32 → Int32 → Int32 → Hp → Option (Int32 × Hp)} (hr_39 : ∀ {v2 : Int32} {v3 : Int32} {v4 : Int32} {h : Hp}, rec_39 v2 v3 v4 h = some r → G X d 240 39 [some (.ref 84), none, some (.int v2), some (.int v3), some (.int v4)] [] h) {h : Hp} {v2 : Int32} {v3 : Int32} {v4 : Int32} (e : R_240_50 rec_39 v2 v3 v4 h = some r) : G X d 240 50 [some (.ref 84), none, some (.int v2), some (.int v3), some (.int v4)] [] h := by
  unfold R_240_50 at e
  obtain ⟨x, h2, e1, e2⟩ := bndI_s e
  refine k_240_50 (by omega) (t_182 e1) ?_
  rintro _ _ ⟨rfl, rfl⟩
  exact r_240_58 hd hq hr_39 e2
noncomputable def R_240_39 (rec_39 : Int32 → Int32 → Int32 → Hp → Option (Int32 × Hp)) (v2 : Int32) (v3 : Int32) (v4 : Int32) (h : Hp) : Option (Int32 × Hp) := gd (IA 85 0) (if (h 85 (Int32.toNatClampNeg 0)) ≤ v4 then R_240_92 v3 h else R_240_50 rec_39 v2 v3 v4 h)
theorem r_240_39 {X : GX} {d : Nat} {r : Int32 × Hp} (hd : 4 ≤ d) (hq : RtX X (some (.int r.1)) r.2) {rec_39 : Int32 → Int32 → Int32 → Hp → Option (Int32 × Hp)} (hr_39 : ∀ {v2 : Int32} {v3 : Int32} {v4 : Int32} {h : Hp}, rec_39 v2 v3 v4 h = some r → G X d 240 39 [some (.ref 84), none, some (.int v2), some (.int v3), some (.int v4)] [] h) {h : Hp} {v2 : Int32} {v3 : Int32} {v4 : Int32} (e : R_240_39 rec_39 v2 v3 v4 h = some r) : G X d 240 39 [some (.ref 84), none, some (.int v2), some (.int v3), some (.int v4)] [] h := by
  unfold R_240_39 at e
  have g := gd_s e; clear e; obtain ⟨b0, e⟩ := g
  refine k_240_39 b0 (fun c => ?_) (fun c => ?_)
  · rw [if_pos c] at e; exact r_240_92 hd hq e
  · rw [if_neg c] at e; exact r_240_50 hd hq hr_39 e
noncomputable def H_240_39 : Nat → Int32 → Int32 → Int32 → Hp → Option (Int32 × Hp)
  | 0, _, _, _, _ => none
  | n + 1, v2, v3, v4, h => R_240_39 (H_240_39 n) v2 v3 v4 h
theorem h_240_39 {X : GX} {d : Nat} {r : Int32 × Hp} (hd : 4 ≤ d) (hq : RtX X (some (.int r.1)) r.2) {n : Nat} {h : Hp} {v2 : Int32} {v3 : Int32} {v4 : Int32} (e : H_240_39 n v2 v3 v4 h = some r) : G X d 240 39 [some (.ref 84), none, some (.int v2), some (.int v3), some (.int v4)] [] h := by
  induction n generalizing v2 v3 v4 h with
  | zero => cases e
  | succ n ih => exact r_240_39 hd hq (fun e => ih e) e
noncomputable def R_240_32 (h : Hp) : Option (Int32 × Hp) := H_240_39 fuL 0 0 0 h
theorem r_240_32 {X : GX} {d : Nat} {r : Int32 × Hp} (hd : 4 ≤ d) (hq : RtX X (some (.int r.1)) r.2) {h : Hp} (e : R_240_32 h = some r) : G X d 240 32 [some (.ref 84), none, none, none, none] [] h := by
  unfold R_240_32 at e
  exact k_240_32 (h_240_39 hd hq e)
noncomputable def R_240_31 (s0 : Int32) (h : Hp) : Option (Int32 × Hp) := some (s0, h)
theorem r_240_31 {X : GX} {d : Nat} {r : Int32 × Hp} (hd : 4 ≤ d) (hq : RtX X (some (.int r.1)) r.2) {h : Hp} {s0 : Int32} (e : R_240_31 s0 h = some r) : G X d 240 31 [none, none, none, none, none] [.int s0] h := by
  unfold R_240_31 at e
  rw [← Option.some.inj e] at hq
  exact k_240_31 hq
noncomputable def R_240_26 (v1 : Int32) (h : Hp) : Option (Int32 × Hp) := bndI (S_241 v1 h) (R_240_31)
theorem r_240_26 {X : GX} {d : Nat} {r : Int32 × Hp} (hd : 4 ≤ d) (hq : RtX X (some (.int r.1)) r.2) {h : Hp} {v1 : Int32} (e : R_240_26 v1 h = some r) : G X d 240 26 [some (.ref 84), some (.int v1), none, none, none] [] h := by
  unfold R_240_26 at e
  obtain ⟨x, h2, e1, e2⟩ := bndI_s e
  refine k_240_26 (by omega) (t_241 e1) ?_
  rintro _ _ ⟨rfl, rfl⟩
  exact r_240_31 hd hq e2
noncomputable def R_240_22 (v1 : Int32) (h : Hp) : Option (Int32 × Hp) := if v1 < 0 then R_240_32 h else R_240_26 v1 h
theorem r_240_22 {X : GX} {d : Nat} {r : Int32 × Hp} (hd : 4 ≤ d) (hq : RtX X (some (.int r.1)) r.2) {h : Hp} {v1 : Int32} (e : R_240_22 v1 h = some r) : G X d 240 22 [some (.ref 84), some (.int v1), none, none, none] [] h := by
  unfold R_240_22 at e
  refine k_240_22 (fun c => ?_) (fun c => ?_)
  · rw [if_pos c] at e; exact r_240_32 hd hq e
  · rw [if_neg c] at e; exact r_240_26 hd hq e
noncomputable def R_240_20 (h : Hp) : Option (Int32 × Hp) := some (((-1)), h)
theorem r_240_20 {X : GX} {d : Nat} {r : Int32 × Hp} (hd : 4 ≤ d) (hq : RtX X (some (.int r.1)) r.2) {h : Hp} (e : R_240_20 h = some r) : G X d 240 20 [none, none, none, none, none] [] h := by
  unfold R_240_20 at e
  rw [← Option.some.inj e] at hq
  exact k_240_20 hq
noncomputable def R_240_17 (v1 : Int32) (s0 : Int32) (h : Hp) : Option (Int32 × Hp) := if s0 = 0 then R_240_20 h else R_240_22 v1 h
theorem r_240_17 {X : GX} {d : Nat} {r : Int32 × Hp} (hd : 4 ≤ d) (hq : RtX X (some (.int r.1)) r.2) {h : Hp} {v1 : Int32} {s0 : Int32} (e : R_240_17 v1 s0 h = some r) : G X d 240 17 [some (.ref 84), some (.int v1), none, none, none] [.int s0] h := by
  unfold R_240_17 at e
  refine k_240_17 (fun c => ?_) (fun c => ?_)
  · rw [if_neg c] at e; exact r_240_22 hd hq e
  · rw [if_pos c] at e; exact r_240_20 hd hq e
noncomputable def R_240_0 (v1 : Int32) (h : Hp) : Option (Int32 × Hp) := gd (IA 85 0) (bndI (S_177 (Int32.toInt64 v1) ((-1)) (Int32.toInt64 ((h 85 (Int32.toNatClampNeg 0)) - 1)) h) (R_240_17 v1))
theorem r_240_0 {X : GX} {d : Nat} {r : Int32 × Hp} (hd : 4 ≤ d) (hq : RtX X (some (.int r.1)) r.2) {h : Hp} {v1 : Int32} (e : R_240_0 v1 h = some r) : G X d 240 0 [some (.ref 84), some (.int v1), none, none, none] [] h := by
  unfold R_240_0 at e
  have g := gd_s e; clear e; obtain ⟨b0, e⟩ := g
  obtain ⟨x, h2, e1, e2⟩ := bndI_s e
  refine k_240_0 b0 (by omega) (t_177 e1) ?_
  rintro _ _ ⟨rfl, rfl⟩
  exact r_240_17 hd hq e2
noncomputable def S_240 (v1 : Int32) (h : Hp) : Option (Int32 × Hp) := R_240_0 v1 h
set_option maxRecDepth 100000 in
theorem t_240 {v1 : Int32} {h : Hp} {r : Int32 × Hp} (e : S_240 v1 h = some r) : CI 4 240 [.ref 84, .int v1] h (fun x g => x = r.1 ∧ g = r.2) := by
  refine C.of mo_240 (Nat.le_of_ble_eq_true rfl) (fun X hq => ?_)
  exact r_240_0 (Nat.le_refl _) (hq _ _ ⟨_, rfl, rfl, rfl⟩) e
/-! 245 PlayedTruthModel.ones(I)I -/
noncomputable def R_245_24 (v1 : Int32) (h : Hp) : Option (Int32 × Hp) := some (v1, h)
theorem r_245_24 {X : GX} {d : Nat} {r : Int32 × Hp} (hd : 1 ≤ d) (hq : RtX X (some (.int r.1)) r.2) {h : Hp} {v1 : Int32} (e : R_245_24 v1 h = some r) : G X d 245 24 [none, some (.int v1), none] [] h := by
  unfold R_245_24 at e
  rw [← Option.some.inj e] at hq
  exact k_245_24 hq
noncomputable def R_245_10 (rec_4 : Int32 → Int32 → Int32 → Hp → Option (Int32 × Hp)) (v0 : Int32) (v1 : Int32) (v2 : Int32) (h : Hp) : Option (Int32 × Hp) := rec_4 v0 (v1 + ((v0 >>> (v2 &&& 31)) &&& 1)) (v2 + 1) h
theorem r_245_10 {X : GX} {d : Nat} {r : Int32 × Hp} (hd : 1 ≤ d) (hq : RtX X (some (.int r.1)) r.2) {rec_4 : Int32 → Int32 → Int32 → Hp → Option (Int32 × Hp)} (hr_4 : ∀ {v0 : Int32} {v1 : Int32} {v2 : Int32} {h : Hp}, rec_4 v0 v1 v2 h = some r → G X d 245 4 [some (.int v0), some (.int v1), some (.int v2)] [] h) {h : Hp} {v0 : Int32} {v1 : Int32} {v2 : Int32} (e : R_245_10 rec_4 v0 v1 v2 h = some r) : G X d 245 10 [some (.int v0), some (.int v1), some (.int v2)] [] h := by
  unfold R_245_10 at e
  exact k_245_10 (hr_4 e)
noncomputable def R_245_4 (rec_4 : Int32 → Int32 → Int32 → Hp → Option (Int32 × Hp)) (v0 : Int32) (v1 : Int32) (v2 : Int32) (h : Hp) : Option (Int32 × Hp) := if 6 ≤ v2 then R_245_24 v1 h else R_245_10 rec_4 v0 v1 v2 h
theorem r_245_4 {X : GX} {d : Nat} {r : Int32 × Hp} (hd : 1 ≤ d) (hq : RtX X (some (.int r.1)) r.2) {rec_4 : Int32 → Int32 → Int32 → Hp → Option (Int32 × Hp)} (hr_4 : ∀ {v0 : Int32} {v1 : Int32} {v2 : Int32} {h : Hp}, rec_4 v0 v1 v2 h = some r → G X d 245 4 [some (.int v0), some (.int v1), some (.int v2)] [] h) {h : Hp} {v0 : Int32} {v1 : Int32} {v2 : Int32} (e : R_245_4 rec_4 v0 v1 v2 h = some r) : G X d 245 4 [some (.int v0), some (.int v1), some (.int v2)] [] h := by
  unfold R_245_4 at e
  refine k_245_4 (fun c => ?_) (fun c => ?_)
  · rw [if_pos c] at e; exact r_245_24 hd hq e
  · rw [if_neg c] at e; exact r_245_10 hd hq hr_4 e
noncomputable def H_245_4 : Nat → Int32 → Int32 → Int32 → Hp → Option (Int32 × Hp)
  | 0, _, _, _, _ => none
  | n + 1, v0, v1, v2, h => R_245_4 (H_245_4 n) v0 v1 v2 h
theorem h_245_4 {X : GX} {d : Nat} {r : Int32 × Hp} (hd : 1 ≤ d) (hq : RtX X (some (.int r.1)) r.2) {n : Nat} {h : Hp} {v0 : Int32} {v1 : Int32} {v2 : Int32} (e : H_245_4 n v0 v1 v2 h = some r) : G X d 245 4 [some (.int v0), some (.int v1), some (.int v2)] [] h := by
  induction n generalizing v0 v1 v2 h with
  | zero => cases e
  | succ n ih => exact r_245_4 hd hq (fun e => ih e) e
noncomputable def R_245_0 (v0 : Int32) (h : Hp) : Option (Int32 × Hp) := H_245_4 fuL v0 0 0 h
theorem r_245_0 {X : GX} {d : Nat} {r : Int32 × Hp} (hd : 1 ≤ d) (hq : RtX X (some (.int r.1)) r.2) {h : Hp} {v0 : Int32} (e : R_245_0 v0 h = some r) : G X d 245 0 [some (.int v0), none, none] [] h := by
  unfold R_245_0 at e
  exact k_245_0 (h_245_4 hd hq e)
noncomputable def S_245 (v0 : Int32) (h : Hp) : Option (Int32 × Hp) := R_245_0 v0 h
set_option maxRecDepth 100000 in
theorem t_245 {v0 : Int32} {h : Hp} {r : Int32 × Hp} (e : S_245 v0 h = some r) : CI 1 245 [.int v0] h (fun x g => x = r.1 ∧ g = r.2) := by
  refine C.of mo_245 (Nat.le_of_ble_eq_true rfl) (fun X hq => ?_)
  exact r_245_0 (Nat.le_refl _) (hq _ _ ⟨_, rfl, rfl, rfl⟩) e
/-! 244 PlayedTruthModel.billing(I)I -/
noncomputable def R_244_105 (v2 : Int32) (h : Hp) : Option (Int32 × Hp) := some (v2, h)
theorem r_244_105 {X : GX} {d : Nat} {r : Int32 × Hp} (hd : 4 ≤ d) (hq : RtX X (some (.int r.1)) r.2) {h : Hp} {v2 : Int32} (e : R_244_105 v2 h = some r) : G X d 244 105 [none, none, some (.int v2), none, none, none] [] h := by
  unfold R_244_105 at e
  rw [← Option.some.inj e] at hq
  exact k_244_105 hq
noncomputable def R_244_97 (rec_19 : Int32 → Int32 → Int32 → Hp → Option (Int32 × Hp)) (v1 : Int32) (v2 : Int32) (v3 : Int32) (h : Hp) : Option (Int32 × Hp) := rec_19 v1 v2 (v3 + 1) h
theorem r_244_97 {X : GX} {d : Nat} {r : Int32 × Hp} (hd : 4 ≤ d) (hq : RtX X (some (.int r.1)) r.2) {rec_19 : Int32 → Int32 → Int32 → Hp → Option (Int32 × Hp)} (hr_19 : ∀ {v1 : Int32} {v2 : Int32} {v3 : Int32} {h : Hp}, rec_19 v1 v2 v3 h = some r → G X d 244 19 [some (.ref 84), some (.int v1), some (.int v2), some (.int v3), none, none] [] h) {h : Hp} {v1 : Int32} {v2 : Int32} {v3 : Int32} (e : R_244_97 rec_19 v1 v2 v3 h = some r) : G X d 244 97 [some (.ref 84), some (.int v1), some (.int v2), some (.int v3), none, none] [] h := by
  unfold R_244_97 at e
  exact k_244_97 (hr_19 e)
noncomputable def R_244_93 (rec_19 : Int32 → Int32 → Int32 → Hp → Option (Int32 × Hp)) (v1 : Int32) (v3 : Int32) (h : Hp) : Option (Int32 × Hp) := rec_19 v1 v3 (v3 + 1) h
theorem r_244_93 {X : GX} {d : Nat} {r : Int32 × Hp} (hd : 4 ≤ d) (hq : RtX X (some (.int r.1)) r.2) {rec_19 : Int32 → Int32 → Int32 → Hp → Option (Int32 × Hp)} (hr_19 : ∀ {v1 : Int32} {v2 : Int32} {v3 : Int32} {h : Hp}, rec_19 v1 v2 v3 h = some r → G X d 244 19 [some (.ref 84), some (.int v1), some (.int v2), some (.int v3), none, none] [] h) {h : Hp} {v1 : Int32} {v3 : Int32} (e : R_244_93 rec_19 v1 v3 h = some r) : G X d 244 93 [some (.ref 84), some (.int v1), none, some (.int v3), none, none] [] h := by
  unfold R_244_93 at e
  exact k_244_93 (hr_19 e)
noncomputable def R_244_90 (rec_19 : Int32 → Int32 → Int32 → Hp → Option (Int32 × Hp)) (v1 : Int32) (v2 : Int32) (v3 : Int32) (s1 : Int32) (s0 : Int32) (h : Hp) : Option (Int32 × Hp) := if s0 ≤ s1 then R_244_97 rec_19 v1 v2 v3 h else R_244_93 rec_19 v1 v3 h
theorem r_244_90 {X : GX} {d : Nat} {r : Int32 × Hp} (hd : 4 ≤ d) (hq : RtX X (some (.int r.1)) r.2) {rec_19 : Int32 → Int32 → Int32 → Hp → Option (Int32 × Hp)} (hr_19 : ∀ {v1 : Int32} {v2 : Int32} {v3 : Int32} {h : Hp}, rec_19 v1 v2 v3 h = some r → G X d 244 19 [some (.ref 84), some (.int v1), some (.int v2), some (.int v3), none, none] [] h) {h : Hp} {v1 : Int32} {v2 : Int32} {v3 : Int32} {s1 : Int32} {s0 : Int32} (e : R_244_90 rec_19 v1 v2 v3 s1 s0 h = some r) : G X d 244 90 [some (.ref 84), some (.int v1), some (.int v2), some (.int v3), none, none] [.int s0, .int s1] h := by
  unfold R_244_90 at e
  refine k_244_90 (fun c => ?_) (fun c => ?_)
  · rw [if_pos c] at e; exact r_244_97 hd hq hr_19 e
  · rw [if_neg c] at e; exact r_244_93 hd hq hr_19 e
noncomputable def R_244_86 (rec_19 : Int32 → Int32 → Int32 → Hp → Option (Int32 × Hp)) (v1 : Int32) (v2 : Int32) (v3 : Int32) (s0 : Int32) (h : Hp) : Option (Int32 × Hp) := bndI (S_245 v2 h) (R_244_90 rec_19 v1 v2 v3 s0)
theorem r_244_86 {X : GX} {d : Nat} {r : Int32 × Hp} (hd : 4 ≤ d) (hq : RtX X (some (.int r.1)) r.2) {rec_19 : Int32 → Int32 → Int32 → Hp → Option (Int32 × Hp)} (hr_19 : ∀ {v1 : Int32} {v2 : Int32} {v3 : Int32} {h : Hp}, rec_19 v1 v2 v3 h = some r → G X d 244 19 [some (.ref 84), some (.int v1), some (.int v2), some (.int v3), none, none] [] h) {h : Hp} {v1 : Int32} {v2 : Int32} {v3 : Int32} {s0 : Int32} (e : R_244_86 rec_19 v1 v2 v3 s0 h = some r) : G X d 244 86 [some (.ref 84), some (.int v1), some (.int v2), some (.int v3), none, none] [.int s0] h := by
  unfold R_244_86 at e
  obtain ⟨x, h2, e1, e2⟩ := bndI_s e
  refine k_244_86 (by omega) (t_245 e1) ?_
  rintro _ _ ⟨rfl, rfl⟩
  exact r_244_90 hd hq hr_19 e2
noncomputable def R_244_82 (rec_19 : Int32 → Int32 → Int32 → Hp → Option (Int32 × Hp)) (v1 : Int32) (v2 : Int32) (v3 : Int32) (h : Hp) : Option (Int32 × Hp) := bndI (S_245 v3 h) (R_244_86 rec_19 v1 v2 v3)
theorem r_244_82 {X : GX} {d : Nat} {r : Int32 × Hp} (hd : 4 ≤ d) (hq : RtX X (some (.int r.1)) r.2) {rec_19 : Int32 → Int32 → Int32 → Hp → Option (Int32 × Hp)} (hr_19 : ∀ {v1 : Int32} {v2 : Int32} {v3 : Int32} {h : Hp}, rec_19 v1 v2 v3 h = some r → G X d 244 19 [some (.ref 84), some (.int v1), some (.int v2), some (.int v3), none, none] [] h) {h : Hp} {v1 : Int32} {v2 : Int32} {v3 : Int32} (e : R_244_82 rec_19 v1 v2 v3 h = some r) : G X d 244 82 [some (.ref 84), some (.int v1), some (.int v2), some (.int v3), none, none] [] h := by
  unfold R_244_82 at e
  obtain ⟨x, h2, e1, e2⟩ := bndI_s e
  refine k_244_82 (by omega) (t_245 e1) ?_
  rintro _ _ ⟨rfl, rfl⟩
  exact r_244_86 hd hq hr_19 e2
noncomputable def R_244_78 (rec_19 : Int32 → Int32 → Int32 → Hp → Option (Int32 × Hp)) (v1 : Int32) (v2 : Int32) (v3 : Int32) (h : Hp) : Option (Int32 × Hp) := if v2 < 0 then R_244_93 rec_19 v1 v3 h else R_244_82 rec_19 v1 v2 v3 h
theorem r_244_78 {X : GX} {d : Nat} {r : Int32 × Hp} (hd : 4 ≤ d) (hq : RtX X (some (.int r.1)) r.2) {rec_19 : Int32 → Int32 → Int32 → Hp → Option (Int32 × Hp)} (hr_19 : ∀ {v1 : Int32} {v2 : Int32} {v3 : Int32} {h : Hp}, rec_19 v1 v2 v3 h = some r → G X d 244 19 [some (.ref 84), some (.int v1), some (.int v2), some (.int v3), none, none] [] h) {h : Hp} {v1 : Int32} {v2 : Int32} {v3 : Int32} (e : R_244_78 rec_19 v1 v2 v3 h = some r) : G X d 244 78 [some (.ref 84), some (.int v1), some (.int v2), some (.int v3), none, none] [] h := by
  unfold R_244_78 at e
  refine k_244_78 (fun c => ?_) (fun c => ?_)
  · rw [if_pos c] at e; exact r_244_93 hd hq hr_19 e
  · rw [if_neg c] at e; exact r_244_82 hd hq hr_19 e
noncomputable def R_244_72 (rec_19 : Int32 → Int32 → Int32 → Hp → Option (Int32 × Hp)) (v1 : Int32) (v2 : Int32) (v3 : Int32) (v4 : Int32) (h : Hp) : Option (Int32 × Hp) := if v4 < v1 then R_244_97 rec_19 v1 v2 v3 h else R_244_78 rec_19 v1 v2 v3 h
theorem r_244_72 {X : GX} {d : Nat} {r : Int32 × Hp} (hd : 4 ≤ d) (hq : RtX X (some (.int r.1)) r.2) {rec_19 : Int32 → Int32 → Int32 → Hp → Option (Int32 × Hp)} (hr_19 : ∀ {v1 : Int32} {v2 : Int32} {v3 : Int32} {h : Hp}, rec_19 v1 v2 v3 h = some r → G X d 244 19 [some (.ref 84), some (.int v1), some (.int v2), some (.int v3), none, none] [] h) {h : Hp} {v1 : Int32} {v2 : Int32} {v3 : Int32} {v4 : Int32} (e : R_244_72 rec_19 v1 v2 v3 v4 h = some r) : G X d 244 72 [some (.ref 84), some (.int v1), some (.int v2), some (.int v3), some (.int v4), none] [] h := by
  unfold R_244_72 at e
  refine k_244_72 (fun c => ?_) (fun c => ?_)
  · rw [if_pos c] at e; exact r_244_97 hd hq hr_19 e
  · rw [if_neg c] at e; exact r_244_78 hd hq hr_19 e
noncomputable def R_244_62 (rec_19 : Int32 → Int32 → Int32 → Hp → Option (Int32 × Hp)) (rec_37 : Int32 → Int32 → Int32 → Int32 → Int32 → Hp → Option (Int32 × Hp)) (v1 : Int32) (v2 : Int32) (v3 : Int32) (v5 : Int32) (s1 : Int32) (s2 : Int32) (s0 : Int32) (h : Hp) : Option (Int32 × Hp) := rec_37 v1 v2 v3 (s2 + (s1 * s0)) (v5 + 1) h
theorem r_244_62 {X : GX} {d : Nat} {r : Int32 × Hp} (hd : 4 ≤ d) (hq : RtX X (some (.int r.1)) r.2) {rec_19 : Int32 → Int32 → Int32 → Hp → Option (Int32 × Hp)} {rec_37 : Int32 → Int32 → Int32 → Int32 → Int32 → Hp → Option (Int32 × Hp)} (hr_19 : ∀ {v1 : Int32} {v2 : Int32} {v3 : Int32} {h : Hp}, rec_19 v1 v2 v3 h = some r → G X d 244 19 [some (.ref 84), some (.int v1), some (.int v2), some (.int v3), none, none] [] h) (hr_37 : ∀ {v1 : Int32} {v2 : Int32} {v3 : Int32} {v4 : Int32} {v5 : Int32} {h : Hp}, rec_37 v1 v2 v3 v4 v5 h = some r → G X d 244 37 [some (.ref 84), some (.int v1), some (.int v2), some (.int v3), some (.int v4), some (.int v5)] [] h) {h : Hp} {v1 : Int32} {v2 : Int32} {v3 : Int32} {v5 : Int32} {s1 : Int32} {s2 : Int32} {s0 : Int32} (e : R_244_62 rec_19 rec_37 v1 v2 v3 v5 s1 s2 s0 h = some r) : G X d 244 62 [some (.ref 84), some (.int v1), some (.int v2), some (.int v3), none, some (.int v5)] [.int s0, .int s1, .int s2] h := by
  unfold R_244_62 at e
  exact k_244_62 (hr_37 e)
noncomputable def R_244_48 (rec_19 : Int32 → Int32 → Int32 → Hp → Option (Int32 × Hp)) (rec_37 : Int32 → Int32 → Int32 → Int32 → Int32 → Hp → Option (Int32 × Hp)) (v1 : Int32) (v2 : Int32) (v3 : Int32) (v4 : Int32) (v5 : Int32) (h : Hp) : Option (Int32 × Hp) := bndI (S_188 v5 h) (R_244_62 rec_19 rec_37 v1 v2 v3 v5 ((v3 >>> (v5 &&& 31)) &&& 1) v4)
theorem r_244_48 {X : GX} {d : Nat} {r : Int32 × Hp} (hd : 4 ≤ d) (hq : RtX X (some (.int r.1)) r.2) {rec_19 : Int32 → Int32 → Int32 → Hp → Option (Int32 × Hp)} {rec_37 : Int32 → Int32 → Int32 → Int32 → Int32 → Hp → Option (Int32 × Hp)} (hr_19 : ∀ {v1 : Int32} {v2 : Int32} {v3 : Int32} {h : Hp}, rec_19 v1 v2 v3 h = some r → G X d 244 19 [some (.ref 84), some (.int v1), some (.int v2), some (.int v3), none, none] [] h) (hr_37 : ∀ {v1 : Int32} {v2 : Int32} {v3 : Int32} {v4 : Int32} {v5 : Int32} {h : Hp}, rec_37 v1 v2 v3 v4 v5 h = some r → G X d 244 37 [some (.ref 84), some (.int v1), some (.int v2), some (.int v3), some (.int v4), some (.int v5)] [] h) {h : Hp} {v1 : Int32} {v2 : Int32} {v3 : Int32} {v4 : Int32} {v5 : Int32} (e : R_244_48 rec_19 rec_37 v1 v2 v3 v4 v5 h = some r) : G X d 244 48 [some (.ref 84), some (.int v1), some (.int v2), some (.int v3), some (.int v4), some (.int v5)] [] h := by
  unfold R_244_48 at e
  obtain ⟨x, h2, e1, e2⟩ := bndI_s e
  refine k_244_48 (by omega) (t_188 e1) ?_
  rintro _ _ ⟨rfl, rfl⟩
  exact r_244_62 hd hq hr_19 hr_37 e2
noncomputable def R_244_37 (rec_19 : Int32 → Int32 → Int32 → Hp → Option (Int32 × Hp)) (rec_37 : Int32 → Int32 → Int32 → Int32 → Int32 → Hp → Option (Int32 × Hp)) (v1 : Int32) (v2 : Int32) (v3 : Int32) (v4 : Int32) (v5 : Int32) (h : Hp) : Option (Int32 × Hp) := gd (IA 85 0) (if (h 85 (Int32.toNatClampNeg 0)) ≤ v5 then R_244_72 rec_19 v1 v2 v3 v4 h else R_244_48 rec_19 rec_37 v1 v2 v3 v4 v5 h)
theorem r_244_37 {X : GX} {d : Nat} {r : Int32 × Hp} (hd : 4 ≤ d) (hq : RtX X (some (.int r.1)) r.2) {rec_19 : Int32 → Int32 → Int32 → Hp → Option (Int32 × Hp)} {rec_37 : Int32 → Int32 → Int32 → Int32 → Int32 → Hp → Option (Int32 × Hp)} (hr_19 : ∀ {v1 : Int32} {v2 : Int32} {v3 : Int32} {h : Hp}, rec_19 v1 v2 v3 h = some r → G X d 244 19 [some (.ref 84), some (.int v1), some (.int v2), some (.int v3), none, none] [] h) (hr_37 : ∀ {v1 : Int32} {v2 : Int32} {v3 : Int32} {v4 : Int32} {v5 : Int32} {h : Hp}, rec_37 v1 v2 v3 v4 v5 h = some r → G X d 244 37 [some (.ref 84), some (.int v1), some (.int v2), some (.int v3), some (.int v4), some (.int v5)] [] h) {h : Hp} {v1 : Int32} {v2 : Int32} {v3 : Int32} {v4 : Int32} {v5 : Int32} (e : R_244_37 rec_19 rec_37 v1 v2 v3 v4 v5 h = some r) : G X d 244 37 [some (.ref 84), some (.int v1), some (.int v2), some (.int v3), some (.int v4), some (.int v5)] [] h := by
  unfold R_244_37 at e
  have g := gd_s e; clear e; obtain ⟨b0, e⟩ := g
  refine k_244_37 b0 (fun c => ?_) (fun c => ?_)
  · rw [if_pos c] at e; exact r_244_72 hd hq hr_19 e
  · rw [if_neg c] at e; exact r_244_48 hd hq hr_19 hr_37 e
noncomputable def H_244_37 (rec_19 : Int32 → Int32 → Int32 → Hp → Option (Int32 × Hp)) : Nat → Int32 → Int32 → Int32 → Int32 → Int32 → Hp → Option (Int32 × Hp)
  | 0, _, _, _, _, _, _ => none
  | n + 1, v1, v2, v3, v4, v5, h => R_244_37 rec_19 (H_244_37 rec_19 n) v1 v2 v3 v4 v5 h
theorem h_244_37 {X : GX} {d : Nat} {r : Int32 × Hp} (hd : 4 ≤ d) (hq : RtX X (some (.int r.1)) r.2) {rec_19 : Int32 → Int32 → Int32 → Hp → Option (Int32 × Hp)} (hr_19 : ∀ {v1 : Int32} {v2 : Int32} {v3 : Int32} {h : Hp}, rec_19 v1 v2 v3 h = some r → G X d 244 19 [some (.ref 84), some (.int v1), some (.int v2), some (.int v3), none, none] [] h) {n : Nat} {h : Hp} {v1 : Int32} {v2 : Int32} {v3 : Int32} {v4 : Int32} {v5 : Int32} (e : H_244_37 rec_19 n v1 v2 v3 v4 v5 h = some r) : G X d 244 37 [some (.ref 84), some (.int v1), some (.int v2), some (.int v3), some (.int v4), some (.int v5)] [] h := by
  induction n generalizing v1 v2 v3 v4 v5 h with
  | zero => cases e
  | succ n ih => exact r_244_37 hd hq hr_19 (fun e => ih e) e
noncomputable def R_244_31 (rec_19 : Int32 → Int32 → Int32 → Hp → Option (Int32 × Hp)) (v1 : Int32) (v2 : Int32) (v3 : Int32) (h : Hp) : Option (Int32 × Hp) := H_244_37 rec_19 fuL v1 v2 v3 0 0 h
theorem r_244_31 {X : GX} {d : Nat} {r : Int32 × Hp} (hd : 4 ≤ d) (hq : RtX X (some (.int r.1)) r.2) {rec_19 : Int32 → Int32 → Int32 → Hp → Option (Int32 × Hp)} (hr_19 : ∀ {v1 : Int32} {v2 : Int32} {v3 : Int32} {h : Hp}, rec_19 v1 v2 v3 h = some r → G X d 244 19 [some (.ref 84), some (.int v1), some (.int v2), some (.int v3), none, none] [] h) {h : Hp} {v1 : Int32} {v2 : Int32} {v3 : Int32} (e : R_244_31 rec_19 v1 v2 v3 h = some r) : G X d 244 31 [some (.ref 84), some (.int v1), some (.int v2), some (.int v3), none, none] [] h := by
  unfold R_244_31 at e
  exact k_244_31 (h_244_37 hd hq hr_19 e)
noncomputable def R_244_19 (rec_19 : Int32 → Int32 → Int32 → Hp → Option (Int32 × Hp)) (v1 : Int32) (v2 : Int32) (v3 : Int32) (h : Hp) : Option (Int32 × Hp) := gd (IA 85 0) (if (1 <<< ((h 85 (Int32.toNatClampNeg 0)) &&& 31)) ≤ v3 then R_244_105 v2 h else R_244_31 rec_19 v1 v2 v3 h)
theorem r_244_19 {X : GX} {d : Nat} {r : Int32 × Hp} (hd : 4 ≤ d) (hq : RtX X (some (.int r.1)) r.2) {rec_19 : Int32 → Int32 → Int32 → Hp → Option (Int32 × Hp)} (hr_19 : ∀ {v1 : Int32} {v2 : Int32} {v3 : Int32} {h : Hp}, rec_19 v1 v2 v3 h = some r → G X d 244 19 [some (.ref 84), some (.int v1), some (.int v2), some (.int v3), none, none] [] h) {h : Hp} {v1 : Int32} {v2 : Int32} {v3 : Int32} (e : R_244_19 rec_19 v1 v2 v3 h = some r) : G X d 244 19 [some (.ref 84), some (.int v1), some (.int v2), some (.int v3), none, none] [] h := by
  unfold R_244_19 at e
  have g := gd_s e; clear e; obtain ⟨b0, e⟩ := g
  refine k_244_19 b0 (fun c => ?_) (fun c => ?_)
  · rw [if_pos c] at e; exact r_244_105 hd hq e
  · rw [if_neg c] at e; exact r_244_31 hd hq hr_19 e
noncomputable def H_244_19 : Nat → Int32 → Int32 → Int32 → Hp → Option (Int32 × Hp)
  | 0, _, _, _, _ => none
  | n + 1, v1, v2, v3, h => R_244_19 (H_244_19 n) v1 v2 v3 h
theorem h_244_19 {X : GX} {d : Nat} {r : Int32 × Hp} (hd : 4 ≤ d) (hq : RtX X (some (.int r.1)) r.2) {n : Nat} {h : Hp} {v1 : Int32} {v2 : Int32} {v3 : Int32} (e : H_244_19 n v1 v2 v3 h = some r) : G X d 244 19 [some (.ref 84), some (.int v1), some (.int v2), some (.int v3), none, none] [] h := by
  induction n generalizing v1 v2 v3 h with
  | zero => cases e
  | succ n ih => exact r_244_19 hd hq (fun e => ih e) e
noncomputable def R_244_14 (v1 : Int32) (h : Hp) : Option (Int32 × Hp) := H_244_19 fuL v1 ((-3)) 0 h
theorem r_244_14 {X : GX} {d : Nat} {r : Int32 × Hp} (hd : 4 ≤ d) (hq : RtX X (some (.int r.1)) r.2) {h : Hp} {v1 : Int32} (e : R_244_14 v1 h = some r) : G X d 244 14 [some (.ref 84), some (.int v1), none, none, none, none] [] h := by
  unfold R_244_14 at e
  exact k_244_14 (h_244_19 hd hq e)
noncomputable def R_244_12 (h : Hp) : Option (Int32 × Hp) := some (((-1)), h)
theorem r_244_12 {X : GX} {d : Nat} {r : Int32 × Hp} (hd : 4 ≤ d) (hq : RtX X (some (.int r.1)) r.2) {h : Hp} (e : R_244_12 h = some r) : G X d 244 12 [none, none, none, none, none, none] [] h := by
  unfold R_244_12 at e
  rw [← Option.some.inj e] at hq
  exact k_244_12 hq
noncomputable def R_244_9 (v1 : Int32) (s0 : Int32) (h : Hp) : Option (Int32 × Hp) := if s0 = 0 then R_244_12 h else R_244_14 v1 h
theorem r_244_9 {X : GX} {d : Nat} {r : Int32 × Hp} (hd : 4 ≤ d) (hq : RtX X (some (.int r.1)) r.2) {h : Hp} {v1 : Int32} {s0 : Int32} (e : R_244_9 v1 s0 h = some r) : G X d 244 9 [some (.ref 84), some (.int v1), none, none, none, none] [.int s0] h := by
  unfold R_244_9 at e
  refine k_244_9 (fun c => ?_) (fun c => ?_)
  · rw [if_neg c] at e; exact r_244_14 hd hq e
  · rw [if_pos c] at e; exact r_244_12 hd hq e
noncomputable def R_244_0 (v1 : Int32) (h : Hp) : Option (Int32 × Hp) := bndI (S_177 (Int32.toInt64 v1) 0 999 h) (R_244_9 v1)
theorem r_244_0 {X : GX} {d : Nat} {r : Int32 × Hp} (hd : 4 ≤ d) (hq : RtX X (some (.int r.1)) r.2) {h : Hp} {v1 : Int32} (e : R_244_0 v1 h = some r) : G X d 244 0 [some (.ref 84), some (.int v1), none, none, none, none] [] h := by
  unfold R_244_0 at e
  obtain ⟨x, h2, e1, e2⟩ := bndI_s e
  refine k_244_0 (by omega) (t_177 e1) ?_
  rintro _ _ ⟨rfl, rfl⟩
  exact r_244_9 hd hq e2
noncomputable def S_244 (v1 : Int32) (h : Hp) : Option (Int32 × Hp) := R_244_0 v1 h
set_option maxRecDepth 100000 in
theorem t_244 {v1 : Int32} {h : Hp} {r : Int32 × Hp} (e : S_244 v1 h = some r) : CI 4 244 [.ref 84, .int v1] h (fun x g => x = r.1 ∧ g = r.2) := by
  refine C.of mo_244 (Nat.le_of_ble_eq_true rfl) (fun X hq => ?_)
  exact r_244_0 (Nat.le_refl _) (hq _ _ ⟨_, rfl, rfl, rfl⟩) e
/-! 247 PlayedTruthModel.isPlan(I)Z -/
noncomputable def R_247_9 (s0 : Int32) (h : Hp) : Option (Int32 × Hp) := gd (s0 = 0 ∨ s0 = 1) (some (s0, h))
theorem r_247_9 {X : GX} {d : Nat} {r : Int32 × Hp} (hd : 2 ≤ d) (hq : RtX X (some (.int r.1)) r.2) {h : Hp} {s0 : Int32} (e : R_247_9 s0 h = some r) : G X d 247 9 [none] [.int s0] h := by
  unfold R_247_9 at e
  have g := gd_s e; clear e; obtain ⟨z0, e⟩ := g
  rw [← Option.some.inj e] at hq
  exact k_247_9 z0 hq
noncomputable def R_247_0 (v0 : Int32) (h : Hp) : Option (Int32 × Hp) := bndI (S_177 (Int32.toInt64 v0) 0 4 h) (R_247_9)
theorem r_247_0 {X : GX} {d : Nat} {r : Int32 × Hp} (hd : 2 ≤ d) (hq : RtX X (some (.int r.1)) r.2) {h : Hp} {v0 : Int32} (e : R_247_0 v0 h = some r) : G X d 247 0 [some (.int v0)] [] h := by
  unfold R_247_0 at e
  obtain ⟨x, h2, e1, e2⟩ := bndI_s e
  refine k_247_0 (by omega) (t_177 e1) ?_
  rintro _ _ ⟨rfl, rfl⟩
  exact r_247_9 hd hq e2
noncomputable def S_247 (v0 : Int32) (h : Hp) : Option (Int32 × Hp) := R_247_0 v0 h
set_option maxRecDepth 100000 in
theorem t_247 {v0 : Int32} {h : Hp} {r : Int32 × Hp} (e : S_247 v0 h = some r) : CI 2 247 [.int v0] h (fun x g => x = r.1 ∧ g = r.2) := by
  refine C.of mo_247 (Nat.le_of_ble_eq_true rfl) (fun X hq => ?_)
  exact r_247_0 (Nat.le_refl _) (hq _ _ ⟨_, rfl, rfl, rfl⟩) e
/-! 249 PlayedTruthModel.longOf(I)I -/
noncomputable def R_249_24 (s0 : Int32) (h : Hp) : Option (Int32 × Hp) := some (s0, h)
theorem r_249_24 {X : GX} {d : Nat} {r : Int32 × Hp} (hd : 2 ≤ d) (hq : RtX X (some (.int r.1)) r.2) {h : Hp} {s0 : Int32} (e : R_249_24 s0 h = some r) : G X d 249 24 [none, none] [.int s0] h := by
  unfold R_249_24 at e
  rw [← Option.some.inj e] at hq
  exact k_249_24 hq
noncomputable def R_249_21 (s1 : Int32) (s2 : Int32) (s0 : Int32) (h : Hp) : Option (Int32 × Hp) := bndI (S_186 s2 s1 s0 h) (R_249_24)
theorem r_249_21 {X : GX} {d : Nat} {r : Int32 × Hp} (hd : 2 ≤ d) (hq : RtX X (some (.int r.1)) r.2) {h : Hp} {s1 : Int32} {s2 : Int32} {s0 : Int32} (e : R_249_21 s1 s2 s0 h = some r) : G X d 249 21 [none, none] [.int s0, .int s1, .int s2] h := by
  unfold R_249_21 at e
  obtain ⟨x, h2, e1, e2⟩ := bndI_s e
  refine k_249_21 (by omega) (t_186 e1) ?_
  rintro _ _ ⟨rfl, rfl⟩
  exact r_249_24 hd hq e2
noncomputable def R_249_0 (v1 : Int32) (h : Hp) : Option (Int32 × Hp) := gd (IA 85 2 ∧ IA 85 1) (bndI (S_186 ((h 85 (Int32.toNatClampNeg 2)) - (h 85 (Int32.toNatClampNeg 1))) 0 16 h) (R_249_21 0 v1))
theorem r_249_0 {X : GX} {d : Nat} {r : Int32 × Hp} (hd : 2 ≤ d) (hq : RtX X (some (.int r.1)) r.2) {h : Hp} {v1 : Int32} (e : R_249_0 v1 h = some r) : G X d 249 0 [some (.ref 84), some (.int v1)] [] h := by
  unfold R_249_0 at e
  have g := gd_s e; clear e; obtain ⟨⟨b0, b1⟩, e⟩ := g
  obtain ⟨x, h2, e1, e2⟩ := bndI_s e
  refine k_249_0 b0 b1 (by omega) (t_186 e1) ?_
  rintro _ _ ⟨rfl, rfl⟩
  exact r_249_21 hd hq e2
noncomputable def S_249 (v1 : Int32) (h : Hp) : Option (Int32 × Hp) := R_249_0 v1 h
set_option maxRecDepth 100000 in
theorem t_249 {v1 : Int32} {h : Hp} {r : Int32 × Hp} (e : S_249 v1 h = some r) : CI 2 249 [.ref 84, .int v1] h (fun x g => x = r.1 ∧ g = r.2) := by
  refine C.of mo_249 (Nat.le_of_ble_eq_true rfl) (fun X hq => ?_)
  exact r_249_0 (Nat.le_refl _) (hq _ _ ⟨_, rfl, rfl, rfl⟩) e
/-! 250 PlayedTruthModel.plansOf(I)I -/
noncomputable def R_250_30 (v2 : Int32) (h : Hp) : Option (Int32 × Hp) := some (v2, h)
theorem r_250_30 {X : GX} {d : Nat} {r : Int32 × Hp} (hd : 3 ≤ d) (hq : RtX X (some (.int r.1)) r.2) {h : Hp} {v2 : Int32} (e : R_250_30 v2 h = some r) : G X d 250 30 [none, none, some (.int v2), none] [] h := by
  unfold R_250_30 at e
  rw [← Option.some.inj e] at hq
  exact k_250_30 hq
noncomputable def R_250_13 (rec_4 : Int32 → Int32 → Int32 → Hp → Option (Int32 × Hp)) (v1 : Int32) (v2 : Int32) (v3 : Int32) (h : Hp) : Option (Int32 × Hp) := gd (IA 85 0) (rec_4 v1 (v2 * ((h 85 (Int32.toNatClampNeg 0)) + 1)) (v3 + 1) h)
theorem r_250_13 {X : GX} {d : Nat} {r : Int32 × Hp} (hd : 3 ≤ d) (hq : RtX X (some (.int r.1)) r.2) {rec_4 : Int32 → Int32 → Int32 → Hp → Option (Int32 × Hp)} (hr_4 : ∀ {v1 : Int32} {v2 : Int32} {v3 : Int32} {h : Hp}, rec_4 v1 v2 v3 h = some r → G X d 250 4 [some (.ref 84), some (.int v1), some (.int v2), some (.int v3)] [] h) {h : Hp} {v1 : Int32} {v2 : Int32} {v3 : Int32} (e : R_250_13 rec_4 v1 v2 v3 h = some r) : G X d 250 13 [some (.ref 84), some (.int v1), some (.int v2), some (.int v3)] [] h := by
  unfold R_250_13 at e
  have g := gd_s e; clear e; obtain ⟨b0, e⟩ := g
  exact k_250_13 b0 (hr_4 e)
noncomputable def R_250_10 (rec_4 : Int32 → Int32 → Int32 → Hp → Option (Int32 × Hp)) (v1 : Int32) (v2 : Int32) (v3 : Int32) (s1 : Int32) (s0 : Int32) (h : Hp) : Option (Int32 × Hp) := if s0 ≤ s1 then R_250_30 v2 h else R_250_13 rec_4 v1 v2 v3 h
theorem r_250_10 {X : GX} {d : Nat} {r : Int32 × Hp} (hd : 3 ≤ d) (hq : RtX X (some (.int r.1)) r.2) {rec_4 : Int32 → Int32 → Int32 → Hp → Option (Int32 × Hp)} (hr_4 : ∀ {v1 : Int32} {v2 : Int32} {v3 : Int32} {h : Hp}, rec_4 v1 v2 v3 h = some r → G X d 250 4 [some (.ref 84), some (.int v1), some (.int v2), some (.int v3)] [] h) {h : Hp} {v1 : Int32} {v2 : Int32} {v3 : Int32} {s1 : Int32} {s0 : Int32} (e : R_250_10 rec_4 v1 v2 v3 s1 s0 h = some r) : G X d 250 10 [some (.ref 84), some (.int v1), some (.int v2), some (.int v3)] [.int s0, .int s1] h := by
  unfold R_250_10 at e
  refine k_250_10 (fun c => ?_) (fun c => ?_)
  · rw [if_pos c] at e; exact r_250_30 hd hq e
  · rw [if_neg c] at e; exact r_250_13 hd hq hr_4 e
noncomputable def R_250_4 (rec_4 : Int32 → Int32 → Int32 → Hp → Option (Int32 × Hp)) (v1 : Int32) (v2 : Int32) (v3 : Int32) (h : Hp) : Option (Int32 × Hp) := bndI (S_249 v1 h) (R_250_10 rec_4 v1 v2 v3 v3)
theorem r_250_4 {X : GX} {d : Nat} {r : Int32 × Hp} (hd : 3 ≤ d) (hq : RtX X (some (.int r.1)) r.2) {rec_4 : Int32 → Int32 → Int32 → Hp → Option (Int32 × Hp)} (hr_4 : ∀ {v1 : Int32} {v2 : Int32} {v3 : Int32} {h : Hp}, rec_4 v1 v2 v3 h = some r → G X d 250 4 [some (.ref 84), some (.int v1), some (.int v2), some (.int v3)] [] h) {h : Hp} {v1 : Int32} {v2 : Int32} {v3 : Int32} (e : R_250_4 rec_4 v1 v2 v3 h = some r) : G X d 250 4 [some (.ref 84), some (.int v1), some (.int v2), some (.int v3)] [] h := by
  unfold R_250_4 at e
  obtain ⟨x, h2, e1, e2⟩ := bndI_s e
  refine k_250_4 (by omega) (t_249 e1) ?_
  rintro _ _ ⟨rfl, rfl⟩
  exact r_250_10 hd hq hr_4 e2
noncomputable def H_250_4 : Nat → Int32 → Int32 → Int32 → Hp → Option (Int32 × Hp)
  | 0, _, _, _, _ => none
  | n + 1, v1, v2, v3, h => R_250_4 (H_250_4 n) v1 v2 v3 h
theorem h_250_4 {X : GX} {d : Nat} {r : Int32 × Hp} (hd : 3 ≤ d) (hq : RtX X (some (.int r.1)) r.2) {n : Nat} {h : Hp} {v1 : Int32} {v2 : Int32} {v3 : Int32} (e : H_250_4 n v1 v2 v3 h = some r) : G X d 250 4 [some (.ref 84), some (.int v1), some (.int v2), some (.int v3)] [] h := by
  induction n generalizing v1 v2 v3 h with
  | zero => cases e
  | succ n ih => exact r_250_4 hd hq (fun e => ih e) e
noncomputable def R_250_0 (v1 : Int32) (h : Hp) : Option (Int32 × Hp) := H_250_4 fuL v1 1 0 h
theorem r_250_0 {X : GX} {d : Nat} {r : Int32 × Hp} (hd : 3 ≤ d) (hq : RtX X (some (.int r.1)) r.2) {h : Hp} {v1 : Int32} (e : R_250_0 v1 h = some r) : G X d 250 0 [some (.ref 84), some (.int v1), none, none] [] h := by
  unfold R_250_0 at e
  exact k_250_0 (h_250_4 hd hq e)
noncomputable def S_250 (v1 : Int32) (h : Hp) : Option (Int32 × Hp) := R_250_0 v1 h
set_option maxRecDepth 100000 in
theorem t_250 {v1 : Int32} {h : Hp} {r : Int32 × Hp} (e : S_250 v1 h = some r) : CI 3 250 [.ref 84, .int v1] h (fun x g => x = r.1 ∧ g = r.2) := by
  refine C.of mo_250 (Nat.le_of_ble_eq_true rfl) (fun X hq => ?_)
  exact r_250_0 (Nat.le_refl _) (hq _ _ ⟨_, rfl, rfl, rfl⟩) e
/-! 251 PlayedTruthModel.actsOf(II)V -/
noncomputable def R_251_46 (h : Hp) : Option (Int32 × Hp) := some (0, h)
theorem r_251_46 {X : GX} {d : Nat} {r : Int32 × Hp} (hd : 1 ≤ d) (hq : RtX X none r.2) {h : Hp} (e : R_251_46 h = some r) : G X d 251 46 [none, none, none, none, none] [] h := by
  unfold R_251_46 at e
  rw [← Option.some.inj e] at hq
  exact k_251_46 hq
noncomputable def R_251_12 (rec_7 : Int32 → Int32 → Hp → Option (Int32 × Hp)) (v3 : Int32) (v4 : Int32) (h : Hp) : Option (Int32 × Hp) := gd (IA 85 0 ∧ ¬ ((h 85 (Int32.toNatClampNeg 0)) + 1) = 0 ∧ IA 92 v4 ∧ ¬ (((wr h 92 (Int32.toNatClampNeg v4) (v3 - v3 / ((h 85 (Int32.toNatClampNeg 0)) + 1) * ((h 85 (Int32.toNatClampNeg 0)) + 1))) 85 (Int32.toNatClampNeg 0)) + 1) = 0) (rec_7 (v3 / (((wr h 92 (Int32.toNatClampNeg v4) (v3 - v3 / ((h 85 (Int32.toNatClampNeg 0)) + 1) * ((h 85 (Int32.toNatClampNeg 0)) + 1))) 85 (Int32.toNatClampNeg 0)) + 1)) (v4 + (-1)) ((wr h 92 (Int32.toNatClampNeg v4) (v3 - v3 / ((h 85 (Int32.toNatClampNeg 0)) + 1) * ((h 85 (Int32.toNatClampNeg 0)) + 1)))))
set_option maxRecDepth 100000 in
theorem r_251_12 {X : GX} {d : Nat} {r : Int32 × Hp} (hd : 1 ≤ d) (hq : RtX X none r.2) {rec_7 : Int32 → Int32 → Hp → Option (Int32 × Hp)} (hr_7 : ∀ {v3 : Int32} {v4 : Int32} {h : Hp}, rec_7 v3 v4 h = some r → G X d 251 7 [some (.ref 84), none, none, some (.int v3), some (.int v4)] [] h) {h : Hp} {v3 : Int32} {v4 : Int32} (e : R_251_12 rec_7 v3 v4 h = some r) : G X d 251 12 [some (.ref 84), none, none, some (.int v3), some (.int v4)] [] h := by
  unfold R_251_12 at e
  have g := gd_s e; clear e; obtain ⟨⟨b0, n1, b2, n3⟩, e⟩ := g
  exact k_251_12 b0 n1 b2 n3 (hr_7 e)
noncomputable def R_251_7 (rec_7 : Int32 → Int32 → Hp → Option (Int32 × Hp)) (v3 : Int32) (v4 : Int32) (h : Hp) : Option (Int32 × Hp) := if v4 < 0 then R_251_46 h else R_251_12 rec_7 v3 v4 h
theorem r_251_7 {X : GX} {d : Nat} {r : Int32 × Hp} (hd : 1 ≤ d) (hq : RtX X none r.2) {rec_7 : Int32 → Int32 → Hp → Option (Int32 × Hp)} (hr_7 : ∀ {v3 : Int32} {v4 : Int32} {h : Hp}, rec_7 v3 v4 h = some r → G X d 251 7 [some (.ref 84), none, none, some (.int v3), some (.int v4)] [] h) {h : Hp} {v3 : Int32} {v4 : Int32} (e : R_251_7 rec_7 v3 v4 h = some r) : G X d 251 7 [some (.ref 84), none, none, some (.int v3), some (.int v4)] [] h := by
  unfold R_251_7 at e
  refine k_251_7 (fun c => ?_) (fun c => ?_)
  · rw [if_pos c] at e; exact r_251_46 hd hq e
  · rw [if_neg c] at e; exact r_251_12 hd hq hr_7 e
noncomputable def H_251_7 : Nat → Int32 → Int32 → Hp → Option (Int32 × Hp)
  | 0, _, _, _ => none
  | n + 1, v3, v4, h => R_251_7 (H_251_7 n) v3 v4 h
theorem h_251_7 {X : GX} {d : Nat} {r : Int32 × Hp} (hd : 1 ≤ d) (hq : RtX X none r.2) {n : Nat} {h : Hp} {v3 : Int32} {v4 : Int32} (e : H_251_7 n v3 v4 h = some r) : G X d 251 7 [some (.ref 84), none, none, some (.int v3), some (.int v4)] [] h := by
  induction n generalizing v3 v4 h with
  | zero => cases e
  | succ n ih => exact r_251_7 hd hq (fun e => ih e) e
noncomputable def R_251_0 (v1 : Int32) (v2 : Int32) (h : Hp) : Option (Int32 × Hp) := H_251_7 fuL v1 (v2 - 1) h
theorem r_251_0 {X : GX} {d : Nat} {r : Int32 × Hp} (hd : 1 ≤ d) (hq : RtX X none r.2) {h : Hp} {v1 : Int32} {v2 : Int32} (e : R_251_0 v1 v2 h = some r) : G X d 251 0 [some (.ref 84), some (.int v1), some (.int v2), none, none] [] h := by
  unfold R_251_0 at e
  exact k_251_0 (h_251_7 hd hq e)
noncomputable def S_251 (v1 : Int32) (v2 : Int32) (h : Hp) : Option (Int32 × Hp) := R_251_0 v1 v2 h
set_option maxRecDepth 100000 in
theorem t_251 {v1 : Int32} {v2 : Int32} {h : Hp} {r : Int32 × Hp} (e : S_251 v1 v2 h = some r) : CV 1 251 [.ref 84, .int v1, .int v2] h (fun g => g = r.2) := by
  refine C.of mo_251 (Nat.le_of_ble_eq_true rfl) (fun X hq => ?_)
  exact r_251_0 (Nat.le_refl _) (hq _ _ ⟨rfl, rfl⟩) e
/-! 248 PlayedTruthModel.findBest(I)V -/
noncomputable def R_248_168 (h : Hp) : Option (Int32 × Hp) := some (0, h)
theorem r_248_168 {X : GX} {d : Nat} {r : Int32 × Hp} (hd : 8 ≤ d) (hq : RtX X none r.2) {h : Hp} (e : R_248_168 h = some r) : G X d 248 168 [none, none, none, none, none, none, none] [] h := by
  unfold R_248_168 at e
  rw [← Option.some.inj e] at hq
  exact k_248_168 hq
noncomputable def R_248_164 (h : Hp) : Option (Int32 × Hp) := bndV (S_231 h) (R_248_168)
theorem r_248_164 {X : GX} {d : Nat} {r : Int32 × Hp} (hd : 8 ≤ d) (hq : RtX X none r.2) {h : Hp} (e : R_248_164 h = some r) : G X d 248 164 [some (.ref 84), none, none, none, none, none, none] [] h := by
  unfold R_248_164 at e
  obtain ⟨x, h2, e1, e2⟩ := bndV_s e
  refine k_248_164 (by omega) (t_231 e1) ?_
  rintro _ rfl
  exact r_248_168 hd hq e2
noncomputable def R_248_151 (rec_24 : Int32 → Int32 → Int32 → Hp → Option (Int32 × Hp)) (v2 : Int32) (v3 : Int32) (v4 : Int32) (s0 : Nat) (h : Hp) : Option (Int32 × Hp) := gd (sh s0 = (1, 9)) (rec_24 v2 v3 (v4 + 1) ((wr h s0 19 (h 84 19))))
theorem r_248_151 {X : GX} {d : Nat} {r : Int32 × Hp} (hd : 8 ≤ d) (hq : RtX X none r.2) {rec_24 : Int32 → Int32 → Int32 → Hp → Option (Int32 × Hp)} (hr_24 : ∀ {v2 : Int32} {v3 : Int32} {v4 : Int32} {h : Hp}, rec_24 v2 v3 v4 h = some r → G X d 248 24 [some (.ref 84), none, some (.int v2), some (.int v3), some (.int v4), none, none] [] h) {h : Hp} {v2 : Int32} {v3 : Int32} {v4 : Int32} {s0 : Nat} (e : R_248_151 rec_24 v2 v3 v4 s0 h = some r) : G X d 248 151 [some (.ref 84), none, some (.int v2), some (.int v3), some (.int v4), none, none] [.ref s0] h := by
  unfold R_248_151 at e
  have g := gd_s e; clear e; obtain ⟨o0, e⟩ := g
  exact k_248_151 o0 (hr_24 e)
noncomputable def R_248_146 (rec_24 : Int32 → Int32 → Int32 → Hp → Option (Int32 × Hp)) (v2 : Int32) (v3 : Int32) (v4 : Int32) (v5 : Int32) (s0 : Nat) (h : Hp) : Option (Int32 × Hp) := gd (sh s0 = (1, 9)) (rec_24 v2 v3 (v4 + 1) ((wr h s0 19 v5)))
theorem r_248_146 {X : GX} {d : Nat} {r : Int32 × Hp} (hd : 8 ≤ d) (hq : RtX X none r.2) {rec_24 : Int32 → Int32 → Int32 → Hp → Option (Int32 × Hp)} (hr_24 : ∀ {v2 : Int32} {v3 : Int32} {v4 : Int32} {h : Hp}, rec_24 v2 v3 v4 h = some r → G X d 248 24 [some (.ref 84), none, some (.int v2), some (.int v3), some (.int v4), none, none] [] h) {h : Hp} {v2 : Int32} {v3 : Int32} {v4 : Int32} {v5 : Int32} {s0 : Nat} (e : R_248_146 rec_24 v2 v3 v4 v5 s0 h = some r) : G X d 248 146 [some (.ref 84), none, some (.int v2), some (.int v3), some (.int v4), some (.int v5), none] [.ref s0] h := by
  unfold R_248_146 at e
  have g := gd_s e; clear e; obtain ⟨o0, e⟩ := g
  exact k_248_146 o0 (hr_24 e)
noncomputable def R_248_129 (rec_24 : Int32 → Int32 → Int32 → Hp → Option (Int32 × Hp)) (v2 : Int32) (v3 : Int32) (v4 : Int32) (v5 : Int32) (s0 : Nat) (h : Hp) : Option (Int32 × Hp) := gd (sh s0 = (1, 9)) (if v5 ≤ ((wr h s0 21 (h 84 21)) 84 19) then R_248_151 rec_24 v2 v3 v4 84 ((wr h s0 21 (h 84 21))) else R_248_146 rec_24 v2 v3 v4 v5 84 ((wr h s0 21 (h 84 21))))
theorem r_248_129 {X : GX} {d : Nat} {r : Int32 × Hp} (hd : 8 ≤ d) (hq : RtX X none r.2) {rec_24 : Int32 → Int32 → Int32 → Hp → Option (Int32 × Hp)} (hr_24 : ∀ {v2 : Int32} {v3 : Int32} {v4 : Int32} {h : Hp}, rec_24 v2 v3 v4 h = some r → G X d 248 24 [some (.ref 84), none, some (.int v2), some (.int v3), some (.int v4), none, none] [] h) {h : Hp} {v2 : Int32} {v3 : Int32} {v4 : Int32} {v5 : Int32} {s0 : Nat} (e : R_248_129 rec_24 v2 v3 v4 v5 s0 h = some r) : G X d 248 129 [some (.ref 84), none, some (.int v2), some (.int v3), some (.int v4), some (.int v5), none] [.ref s0] h := by
  unfold R_248_129 at e
  have g := gd_s e; clear e; obtain ⟨o0, e⟩ := g
  refine k_248_129 o0 (fun c => ?_) (fun c => ?_)
  · rw [if_pos c] at e; exact r_248_151 hd hq hr_24 e
  · rw [if_neg c] at e; exact r_248_146 hd hq hr_24 e
noncomputable def R_248_120 (rec_24 : Int32 → Int32 → Int32 → Hp → Option (Int32 × Hp)) (v2 : Int32) (v3 : Int32) (v4 : Int32) (v5 : Int32) (s0 : Nat) (h : Hp) : Option (Int32 × Hp) := gd (sh s0 = (1, 9)) (if v5 ≤ ((wr h s0 21 ((h 84 21) + 1)) 84 19) then R_248_151 rec_24 v2 v3 v4 84 ((wr h s0 21 ((h 84 21) + 1))) else R_248_146 rec_24 v2 v3 v4 v5 84 ((wr h s0 21 ((h 84 21) + 1))))
theorem r_248_120 {X : GX} {d : Nat} {r : Int32 × Hp} (hd : 8 ≤ d) (hq : RtX X none r.2) {rec_24 : Int32 → Int32 → Int32 → Hp → Option (Int32 × Hp)} (hr_24 : ∀ {v2 : Int32} {v3 : Int32} {v4 : Int32} {h : Hp}, rec_24 v2 v3 v4 h = some r → G X d 248 24 [some (.ref 84), none, some (.int v2), some (.int v3), some (.int v4), none, none] [] h) {h : Hp} {v2 : Int32} {v3 : Int32} {v4 : Int32} {v5 : Int32} {s0 : Nat} (e : R_248_120 rec_24 v2 v3 v4 v5 s0 h = some r) : G X d 248 120 [some (.ref 84), none, some (.int v2), some (.int v3), some (.int v4), some (.int v5), none] [.ref s0] h := by
  unfold R_248_120 at e
  have g := gd_s e; clear e; obtain ⟨o0, e⟩ := g
  refine k_248_120 o0 (fun c => ?_) (fun c => ?_)
  · rw [if_pos c] at e; exact r_248_151 hd hq hr_24 e
  · rw [if_neg c] at e; exact r_248_146 hd hq hr_24 e
noncomputable def R_248_111 (rec_24 : Int32 → Int32 → Int32 → Hp → Option (Int32 × Hp)) (v2 : Int32) (v3 : Int32) (v4 : Int32) (v5 : Int32) (s0 : Nat) (h : Hp) : Option (Int32 × Hp) := if v5 = (h 84 19) then R_248_120 rec_24 v2 v3 v4 v5 s0 h else R_248_129 rec_24 v2 v3 v4 v5 s0 h
theorem r_248_111 {X : GX} {d : Nat} {r : Int32 × Hp} (hd : 8 ≤ d) (hq : RtX X none r.2) {rec_24 : Int32 → Int32 → Int32 → Hp → Option (Int32 × Hp)} (hr_24 : ∀ {v2 : Int32} {v3 : Int32} {v4 : Int32} {h : Hp}, rec_24 v2 v3 v4 h = some r → G X d 248 24 [some (.ref 84), none, some (.int v2), some (.int v3), some (.int v4), none, none] [] h) {h : Hp} {v2 : Int32} {v3 : Int32} {v4 : Int32} {v5 : Int32} {s0 : Nat} (e : R_248_111 rec_24 v2 v3 v4 v5 s0 h = some r) : G X d 248 111 [some (.ref 84), none, some (.int v2), some (.int v3), some (.int v4), some (.int v5), none] [.ref s0] h := by
  unfold R_248_111 at e
  refine k_248_111 (fun c => ?_) (fun c => ?_)
  · rw [if_neg c] at e; exact r_248_129 hd hq hr_24 e
  · rw [if_pos c] at e; exact r_248_120 hd hq hr_24 e
noncomputable def R_248_107 (rec_24 : Int32 → Int32 → Int32 → Hp → Option (Int32 × Hp)) (v2 : Int32) (v3 : Int32) (v4 : Int32) (v5 : Int32) (s0 : Nat) (h : Hp) : Option (Int32 × Hp) := gd (sh s0 = (1, 9)) (if v5 ≤ ((wr h s0 21 1) 84 19) then R_248_151 rec_24 v2 v3 v4 84 ((wr h s0 21 1)) else R_248_146 rec_24 v2 v3 v4 v5 84 ((wr h s0 21 1)))
theorem r_248_107 {X : GX} {d : Nat} {r : Int32 × Hp} (hd : 8 ≤ d) (hq : RtX X none r.2) {rec_24 : Int32 → Int32 → Int32 → Hp → Option (Int32 × Hp)} (hr_24 : ∀ {v2 : Int32} {v3 : Int32} {v4 : Int32} {h : Hp}, rec_24 v2 v3 v4 h = some r → G X d 248 24 [some (.ref 84), none, some (.int v2), some (.int v3), some (.int v4), none, none] [] h) {h : Hp} {v2 : Int32} {v3 : Int32} {v4 : Int32} {v5 : Int32} {s0 : Nat} (e : R_248_107 rec_24 v2 v3 v4 v5 s0 h = some r) : G X d 248 107 [some (.ref 84), none, some (.int v2), some (.int v3), some (.int v4), some (.int v5), none] [.ref s0] h := by
  unfold R_248_107 at e
  have g := gd_s e; clear e; obtain ⟨o0, e⟩ := g
  refine k_248_107 o0 (fun c => ?_) (fun c => ?_)
  · rw [if_pos c] at e; exact r_248_151 hd hq hr_24 e
  · rw [if_neg c] at e; exact r_248_146 hd hq hr_24 e
noncomputable def R_248_90 (rec_24 : Int32 → Int32 → Int32 → Hp → Option (Int32 × Hp)) (v2 : Int32) (v3 : Int32) (v4 : Int32) (v5 : Int32) (s0 : Nat) (h : Hp) : Option (Int32 × Hp) := gd (sh s0 = (1, 9)) (if v5 ≤ ((wr h s0 20 (h 84 20)) 84 19) then R_248_111 rec_24 v2 v3 v4 v5 84 ((wr h s0 20 (h 84 20))) else R_248_107 rec_24 v2 v3 v4 v5 84 ((wr h s0 20 (h 84 20))))
theorem r_248_90 {X : GX} {d : Nat} {r : Int32 × Hp} (hd : 8 ≤ d) (hq : RtX X none r.2) {rec_24 : Int32 → Int32 → Int32 → Hp → Option (Int32 × Hp)} (hr_24 : ∀ {v2 : Int32} {v3 : Int32} {v4 : Int32} {h : Hp}, rec_24 v2 v3 v4 h = some r → G X d 248 24 [some (.ref 84), none, some (.int v2), some (.int v3), some (.int v4), none, none] [] h) {h : Hp} {v2 : Int32} {v3 : Int32} {v4 : Int32} {v5 : Int32} {s0 : Nat} (e : R_248_90 rec_24 v2 v3 v4 v5 s0 h = some r) : G X d 248 90 [some (.ref 84), none, some (.int v2), some (.int v3), some (.int v4), some (.int v5), none] [.ref s0] h := by
  unfold R_248_90 at e
  have g := gd_s e; clear e; obtain ⟨o0, e⟩ := g
  refine k_248_90 o0 (fun c => ?_) (fun c => ?_)
  · rw [if_pos c] at e; exact r_248_111 hd hq hr_24 e
  · rw [if_neg c] at e; exact r_248_107 hd hq hr_24 e
noncomputable def R_248_85 (rec_24 : Int32 → Int32 → Int32 → Hp → Option (Int32 × Hp)) (v2 : Int32) (v3 : Int32) (v4 : Int32) (v5 : Int32) (s0 : Nat) (h : Hp) : Option (Int32 × Hp) := gd (sh s0 = (1, 9)) (if v5 ≤ ((wr h s0 20 v4) 84 19) then R_248_111 rec_24 v2 v3 v4 v5 84 ((wr h s0 20 v4)) else R_248_107 rec_24 v2 v3 v4 v5 84 ((wr h s0 20 v4)))
theorem r_248_85 {X : GX} {d : Nat} {r : Int32 × Hp} (hd : 8 ≤ d) (hq : RtX X none r.2) {rec_24 : Int32 → Int32 → Int32 → Hp → Option (Int32 × Hp)} (hr_24 : ∀ {v2 : Int32} {v3 : Int32} {v4 : Int32} {h : Hp}, rec_24 v2 v3 v4 h = some r → G X d 248 24 [some (.ref 84), none, some (.int v2), some (.int v3), some (.int v4), none, none] [] h) {h : Hp} {v2 : Int32} {v3 : Int32} {v4 : Int32} {v5 : Int32} {s0 : Nat} (e : R_248_85 rec_24 v2 v3 v4 v5 s0 h = some r) : G X d 248 85 [some (.ref 84), none, some (.int v2), some (.int v3), some (.int v4), some (.int v5), none] [.ref s0] h := by
  unfold R_248_85 at e
  have g := gd_s e; clear e; obtain ⟨o0, e⟩ := g
  refine k_248_85 o0 (fun c => ?_) (fun c => ?_)
  · rw [if_pos c] at e; exact r_248_111 hd hq hr_24 e
  · rw [if_neg c] at e; exact r_248_107 hd hq hr_24 e
noncomputable def R_248_75 (rec_24 : Int32 → Int32 → Int32 → Hp → Option (Int32 × Hp)) (v2 : Int32) (v3 : Int32) (v4 : Int32) (v5 : Int32) (h : Hp) : Option (Int32 × Hp) := if v5 ≤ (h 84 19) then R_248_90 rec_24 v2 v3 v4 v5 84 h else R_248_85 rec_24 v2 v3 v4 v5 84 h
theorem r_248_75 {X : GX} {d : Nat} {r : Int32 × Hp} (hd : 8 ≤ d) (hq : RtX X none r.2) {rec_24 : Int32 → Int32 → Int32 → Hp → Option (Int32 × Hp)} (hr_24 : ∀ {v2 : Int32} {v3 : Int32} {v4 : Int32} {h : Hp}, rec_24 v2 v3 v4 h = some r → G X d 248 24 [some (.ref 84), none, some (.int v2), some (.int v3), some (.int v4), none, none] [] h) {h : Hp} {v2 : Int32} {v3 : Int32} {v4 : Int32} {v5 : Int32} (e : R_248_75 rec_24 v2 v3 v4 v5 h = some r) : G X d 248 75 [some (.ref 84), none, some (.int v2), some (.int v3), some (.int v4), some (.int v5), none] [] h := by
  unfold R_248_75 at e
  refine k_248_75 (fun c => ?_) (fun c => ?_)
  · rw [if_pos c] at e; exact r_248_90 hd hq hr_24 e
  · rw [if_neg c] at e; exact r_248_85 hd hq hr_24 e
noncomputable def R_248_71 (rec_24 : Int32 → Int32 → Int32 → Hp → Option (Int32 × Hp)) (v2 : Int32) (v3 : Int32) (v4 : Int32) (v5 : Int32) (h : Hp) : Option (Int32 × Hp) := bndV (S_232 h) (R_248_75 rec_24 v2 v3 v4 v5)
theorem r_248_71 {X : GX} {d : Nat} {r : Int32 × Hp} (hd : 8 ≤ d) (hq : RtX X none r.2) {rec_24 : Int32 → Int32 → Int32 → Hp → Option (Int32 × Hp)} (hr_24 : ∀ {v2 : Int32} {v3 : Int32} {v4 : Int32} {h : Hp}, rec_24 v2 v3 v4 h = some r → G X d 248 24 [some (.ref 84), none, some (.int v2), some (.int v3), some (.int v4), none, none] [] h) {h : Hp} {v2 : Int32} {v3 : Int32} {v4 : Int32} {v5 : Int32} (e : R_248_71 rec_24 v2 v3 v4 v5 h = some r) : G X d 248 71 [some (.ref 84), none, some (.int v2), some (.int v3), some (.int v4), some (.int v5), none] [] h := by
  unfold R_248_71 at e
  obtain ⟨x, h2, e1, e2⟩ := bndV_s e
  refine k_248_71 (by omega) (t_232 e1) ?_
  rintro _ rfl
  exact r_248_75 hd hq hr_24 e2
noncomputable def R_248_62 (rec_24 : Int32 → Int32 → Int32 → Hp → Option (Int32 × Hp)) (rec_43 : Int32 → Int32 → Int32 → Int32 → Int32 → Hp → Option (Int32 × Hp)) (v2 : Int32) (v3 : Int32) (v4 : Int32) (v6 : Int32) (s1 : Int32) (s0 : Int32) (h : Hp) : Option (Int32 × Hp) := rec_43 v2 v3 v4 (s1 + s0) (v6 + 1) h
theorem r_248_62 {X : GX} {d : Nat} {r : Int32 × Hp} (hd : 8 ≤ d) (hq : RtX X none r.2) {rec_24 : Int32 → Int32 → Int32 → Hp → Option (Int32 × Hp)} {rec_43 : Int32 → Int32 → Int32 → Int32 → Int32 → Hp → Option (Int32 × Hp)} (hr_24 : ∀ {v2 : Int32} {v3 : Int32} {v4 : Int32} {h : Hp}, rec_24 v2 v3 v4 h = some r → G X d 248 24 [some (.ref 84), none, some (.int v2), some (.int v3), some (.int v4), none, none] [] h) (hr_43 : ∀ {v2 : Int32} {v3 : Int32} {v4 : Int32} {v5 : Int32} {v6 : Int32} {h : Hp}, rec_43 v2 v3 v4 v5 v6 h = some r → G X d 248 43 [some (.ref 84), none, some (.int v2), some (.int v3), some (.int v4), some (.int v5), some (.int v6)] [] h) {h : Hp} {v2 : Int32} {v3 : Int32} {v4 : Int32} {v6 : Int32} {s1 : Int32} {s0 : Int32} (e : R_248_62 rec_24 rec_43 v2 v3 v4 v6 s1 s0 h = some r) : G X d 248 62 [some (.ref 84), none, some (.int v2), some (.int v3), some (.int v4), none, some (.int v6)] [.int s0, .int s1] h := by
  unfold R_248_62 at e
  exact k_248_62 (hr_43 e)
noncomputable def R_248_49 (rec_24 : Int32 → Int32 → Int32 → Hp → Option (Int32 × Hp)) (rec_43 : Int32 → Int32 → Int32 → Int32 → Int32 → Hp → Option (Int32 × Hp)) (v2 : Int32) (v3 : Int32) (v4 : Int32) (v5 : Int32) (v6 : Int32) (h : Hp) : Option (Int32 × Hp) := gd (IA 92 v6) (bndI (S_226 (h 92 (Int32.toNatClampNeg v6)) h) (R_248_62 rec_24 rec_43 v2 v3 v4 v6 v5))
theorem r_248_49 {X : GX} {d : Nat} {r : Int32 × Hp} (hd : 8 ≤ d) (hq : RtX X none r.2) {rec_24 : Int32 → Int32 → Int32 → Hp → Option (Int32 × Hp)} {rec_43 : Int32 → Int32 → Int32 → Int32 → Int32 → Hp → Option (Int32 × Hp)} (hr_24 : ∀ {v2 : Int32} {v3 : Int32} {v4 : Int32} {h : Hp}, rec_24 v2 v3 v4 h = some r → G X d 248 24 [some (.ref 84), none, some (.int v2), some (.int v3), some (.int v4), none, none] [] h) (hr_43 : ∀ {v2 : Int32} {v3 : Int32} {v4 : Int32} {v5 : Int32} {v6 : Int32} {h : Hp}, rec_43 v2 v3 v4 v5 v6 h = some r → G X d 248 43 [some (.ref 84), none, some (.int v2), some (.int v3), some (.int v4), some (.int v5), some (.int v6)] [] h) {h : Hp} {v2 : Int32} {v3 : Int32} {v4 : Int32} {v5 : Int32} {v6 : Int32} (e : R_248_49 rec_24 rec_43 v2 v3 v4 v5 v6 h = some r) : G X d 248 49 [some (.ref 84), none, some (.int v2), some (.int v3), some (.int v4), some (.int v5), some (.int v6)] [] h := by
  unfold R_248_49 at e
  have g := gd_s e; clear e; obtain ⟨b0, e⟩ := g
  obtain ⟨x, h2, e1, e2⟩ := bndI_s e
  refine k_248_49 b0 (by omega) (t_226 e1) ?_
  rintro _ _ ⟨rfl, rfl⟩
  exact r_248_62 hd hq hr_24 hr_43 e2
noncomputable def R_248_43 (rec_24 : Int32 → Int32 → Int32 → Hp → Option (Int32 × Hp)) (rec_43 : Int32 → Int32 → Int32 → Int32 → Int32 → Hp → Option (Int32 × Hp)) (v2 : Int32) (v3 : Int32) (v4 : Int32) (v5 : Int32) (v6 : Int32) (h : Hp) : Option (Int32 × Hp) := if v2 ≤ v6 then R_248_71 rec_24 v2 v3 v4 v5 h else R_248_49 rec_24 rec_43 v2 v3 v4 v5 v6 h
theorem r_248_43 {X : GX} {d : Nat} {r : Int32 × Hp} (hd : 8 ≤ d) (hq : RtX X none r.2) {rec_24 : Int32 → Int32 → Int32 → Hp → Option (Int32 × Hp)} {rec_43 : Int32 → Int32 → Int32 → Int32 → Int32 → Hp → Option (Int32 × Hp)} (hr_24 : ∀ {v2 : Int32} {v3 : Int32} {v4 : Int32} {h : Hp}, rec_24 v2 v3 v4 h = some r → G X d 248 24 [some (.ref 84), none, some (.int v2), some (.int v3), some (.int v4), none, none] [] h) (hr_43 : ∀ {v2 : Int32} {v3 : Int32} {v4 : Int32} {v5 : Int32} {v6 : Int32} {h : Hp}, rec_43 v2 v3 v4 v5 v6 h = some r → G X d 248 43 [some (.ref 84), none, some (.int v2), some (.int v3), some (.int v4), some (.int v5), some (.int v6)] [] h) {h : Hp} {v2 : Int32} {v3 : Int32} {v4 : Int32} {v5 : Int32} {v6 : Int32} (e : R_248_43 rec_24 rec_43 v2 v3 v4 v5 v6 h = some r) : G X d 248 43 [some (.ref 84), none, some (.int v2), some (.int v3), some (.int v4), some (.int v5), some (.int v6)] [] h := by
  unfold R_248_43 at e
  refine k_248_43 (fun c => ?_) (fun c => ?_)
  · rw [if_pos c] at e; exact r_248_71 hd hq hr_24 e
  · rw [if_neg c] at e; exact r_248_49 hd hq hr_24 hr_43 e
noncomputable def H_248_43 (rec_24 : Int32 → Int32 → Int32 → Hp → Option (Int32 × Hp)) : Nat → Int32 → Int32 → Int32 → Int32 → Int32 → Hp → Option (Int32 × Hp)
  | 0, _, _, _, _, _, _ => none
  | n + 1, v2, v3, v4, v5, v6, h => R_248_43 rec_24 (H_248_43 rec_24 n) v2 v3 v4 v5 v6 h
theorem h_248_43 {X : GX} {d : Nat} {r : Int32 × Hp} (hd : 8 ≤ d) (hq : RtX X none r.2) {rec_24 : Int32 → Int32 → Int32 → Hp → Option (Int32 × Hp)} (hr_24 : ∀ {v2 : Int32} {v3 : Int32} {v4 : Int32} {h : Hp}, rec_24 v2 v3 v4 h = some r → G X d 248 24 [some (.ref 84), none, some (.int v2), some (.int v3), some (.int v4), none, none] [] h) {n : Nat} {h : Hp} {v2 : Int32} {v3 : Int32} {v4 : Int32} {v5 : Int32} {v6 : Int32} (e : H_248_43 rec_24 n v2 v3 v4 v5 v6 h = some r) : G X d 248 43 [some (.ref 84), none, some (.int v2), some (.int v3), some (.int v4), some (.int v5), some (.int v6)] [] h := by
  induction n generalizing v2 v3 v4 v5 v6 h with
  | zero => cases e
  | succ n ih => exact r_248_43 hd hq hr_24 (fun e => ih e) e
noncomputable def R_248_37 (rec_24 : Int32 → Int32 → Int32 → Hp → Option (Int32 × Hp)) (v2 : Int32) (v3 : Int32) (v4 : Int32) (h : Hp) : Option (Int32 × Hp) := H_248_43 rec_24 fuL v2 v3 v4 0 0 h
theorem r_248_37 {X : GX} {d : Nat} {r : Int32 × Hp} (hd : 8 ≤ d) (hq : RtX X none r.2) {rec_24 : Int32 → Int32 → Int32 → Hp → Option (Int32 × Hp)} (hr_24 : ∀ {v2 : Int32} {v3 : Int32} {v4 : Int32} {h : Hp}, rec_24 v2 v3 v4 h = some r → G X d 248 24 [some (.ref 84), none, some (.int v2), some (.int v3), some (.int v4), none, none] [] h) {h : Hp} {v2 : Int32} {v3 : Int32} {v4 : Int32} (e : R_248_37 rec_24 v2 v3 v4 h = some r) : G X d 248 37 [some (.ref 84), none, some (.int v2), some (.int v3), some (.int v4), none, none] [] h := by
  unfold R_248_37 at e
  exact k_248_37 (h_248_43 hd hq hr_24 e)
noncomputable def R_248_30 (rec_24 : Int32 → Int32 → Int32 → Hp → Option (Int32 × Hp)) (v2 : Int32) (v3 : Int32) (v4 : Int32) (h : Hp) : Option (Int32 × Hp) := bndV (S_251 v4 v2 h) (R_248_37 rec_24 v2 v3 v4)
theorem r_248_30 {X : GX} {d : Nat} {r : Int32 × Hp} (hd : 8 ≤ d) (hq : RtX X none r.2) {rec_24 : Int32 → Int32 → Int32 → Hp → Option (Int32 × Hp)} (hr_24 : ∀ {v2 : Int32} {v3 : Int32} {v4 : Int32} {h : Hp}, rec_24 v2 v3 v4 h = some r → G X d 248 24 [some (.ref 84), none, some (.int v2), some (.int v3), some (.int v4), none, none] [] h) {h : Hp} {v2 : Int32} {v3 : Int32} {v4 : Int32} (e : R_248_30 rec_24 v2 v3 v4 h = some r) : G X d 248 30 [some (.ref 84), none, some (.int v2), some (.int v3), some (.int v4), none, none] [] h := by
  unfold R_248_30 at e
  obtain ⟨x, h2, e1, e2⟩ := bndV_s e
  refine k_248_30 (by omega) (t_251 e1) ?_
  rintro _ rfl
  exact r_248_37 hd hq hr_24 e2
noncomputable def R_248_24 (rec_24 : Int32 → Int32 → Int32 → Hp → Option (Int32 × Hp)) (v2 : Int32) (v3 : Int32) (v4 : Int32) (h : Hp) : Option (Int32 × Hp) := if v3 ≤ v4 then R_248_164 h else R_248_30 rec_24 v2 v3 v4 h
theorem r_248_24 {X : GX} {d : Nat} {r : Int32 × Hp} (hd : 8 ≤ d) (hq : RtX X none r.2) {rec_24 : Int32 → Int32 → Int32 → Hp → Option (Int32 × Hp)} (hr_24 : ∀ {v2 : Int32} {v3 : Int32} {v4 : Int32} {h : Hp}, rec_24 v2 v3 v4 h = some r → G X d 248 24 [some (.ref 84), none, some (.int v2), some (.int v3), some (.int v4), none, none] [] h) {h : Hp} {v2 : Int32} {v3 : Int32} {v4 : Int32} (e : R_248_24 rec_24 v2 v3 v4 h = some r) : G X d 248 24 [some (.ref 84), none, some (.int v2), some (.int v3), some (.int v4), none, none] [] h := by
  unfold R_248_24 at e
  refine k_248_24 (fun c => ?_) (fun c => ?_)
  · rw [if_pos c] at e; exact r_248_164 hd hq e
  · rw [if_neg c] at e; exact r_248_30 hd hq hr_24 e
noncomputable def H_248_24 : Nat → Int32 → Int32 → Int32 → Hp → Option (Int32 × Hp)
  | 0, _, _, _, _ => none
  | n + 1, v2, v3, v4, h => R_248_24 (H_248_24 n) v2 v3 v4 h
theorem h_248_24 {X : GX} {d : Nat} {r : Int32 × Hp} (hd : 8 ≤ d) (hq : RtX X none r.2) {n : Nat} {h : Hp} {v2 : Int32} {v3 : Int32} {v4 : Int32} (e : H_248_24 n v2 v3 v4 h = some r) : G X d 248 24 [some (.ref 84), none, some (.int v2), some (.int v3), some (.int v4), none, none] [] h := by
  induction n generalizing v2 v3 v4 h with
  | zero => cases e
  | succ n ih => exact r_248_24 hd hq (fun e => ih e) e
noncomputable def R_248_21 (v2 : Int32) (v3 : Int32) (h : Hp) : Option (Int32 × Hp) := H_248_24 fuL v2 v3 0 h
theorem r_248_21 {X : GX} {d : Nat} {r : Int32 × Hp} (hd : 8 ≤ d) (hq : RtX X none r.2) {h : Hp} {v2 : Int32} {v3 : Int32} (e : R_248_21 v2 v3 h = some r) : G X d 248 21 [some (.ref 84), none, some (.int v2), some (.int v3), none, none, none] [] h := by
  unfold R_248_21 at e
  exact k_248_21 (h_248_24 hd hq e)
noncomputable def R_248_11 (v2 : Int32) (s0 : Int32) (h : Hp) : Option (Int32 × Hp) := bndV (S_229 ((wr h 84 19 ((-1))))) (R_248_21 v2 s0)
theorem r_248_11 {X : GX} {d : Nat} {r : Int32 × Hp} (hd : 8 ≤ d) (hq : RtX X none r.2) {h : Hp} {v2 : Int32} {s0 : Int32} (e : R_248_11 v2 s0 h = some r) : G X d 248 11 [some (.ref 84), none, some (.int v2), none, none, none, none] [.int s0] h := by
  unfold R_248_11 at e
  obtain ⟨x, h2, e1, e2⟩ := bndV_s e
  refine k_248_11 (by omega) (t_229 e1) ?_
  rintro _ rfl
  exact r_248_21 hd hq e2
noncomputable def R_248_5 (v1 : Int32) (s0 : Int32) (h : Hp) : Option (Int32 × Hp) := bndI (S_250 v1 h) (R_248_11 s0)
theorem r_248_5 {X : GX} {d : Nat} {r : Int32 × Hp} (hd : 8 ≤ d) (hq : RtX X none r.2) {h : Hp} {v1 : Int32} {s0 : Int32} (e : R_248_5 v1 s0 h = some r) : G X d 248 5 [some (.ref 84), some (.int v1), none, none, none, none, none] [.int s0] h := by
  unfold R_248_5 at e
  obtain ⟨x, h2, e1, e2⟩ := bndI_s e
  refine k_248_5 (by omega) (t_250 e1) ?_
  rintro _ _ ⟨rfl, rfl⟩
  exact r_248_11 hd hq e2
noncomputable def R_248_0 (v1 : Int32) (h : Hp) : Option (Int32 × Hp) := bndI (S_249 v1 h) (R_248_5 v1)
theorem r_248_0 {X : GX} {d : Nat} {r : Int32 × Hp} (hd : 8 ≤ d) (hq : RtX X none r.2) {h : Hp} {v1 : Int32} (e : R_248_0 v1 h = some r) : G X d 248 0 [some (.ref 84), some (.int v1), none, none, none, none, none] [] h := by
  unfold R_248_0 at e
  obtain ⟨x, h2, e1, e2⟩ := bndI_s e
  refine k_248_0 (by omega) (t_249 e1) ?_
  rintro _ _ ⟨rfl, rfl⟩
  exact r_248_5 hd hq e2
noncomputable def S_248 (v1 : Int32) (h : Hp) : Option (Int32 × Hp) := R_248_0 v1 h
set_option maxRecDepth 100000 in
theorem t_248 {v1 : Int32} {h : Hp} {r : Int32 × Hp} (e : S_248 v1 h = some r) : CV 8 248 [.ref 84, .int v1] h (fun g => g = r.2) := by
  refine C.of mo_248 (Nat.le_of_ble_eq_true rfl) (fun X hq => ?_)
  exact r_248_0 (Nat.le_refl _) (hq _ _ ⟨rfl, rfl⟩) e
/-! 246 PlayedTruthModel.best(I)I -/
noncomputable def R_246_14 (h : Hp) : Option (Int32 × Hp) := some ((h 84 19), h)
theorem r_246_14 {X : GX} {d : Nat} {r : Int32 × Hp} (hd : 9 ≤ d) (hq : RtX X (some (.int r.1)) r.2) {h : Hp} (e : R_246_14 h = some r) : G X d 246 14 [some (.ref 84), none] [] h := by
  unfold R_246_14 at e
  rw [← Option.some.inj e] at hq
  exact k_246_14 hq
noncomputable def R_246_9 (v1 : Int32) (h : Hp) : Option (Int32 × Hp) := bndV (S_248 v1 h) (R_246_14)
theorem r_246_9 {X : GX} {d : Nat} {r : Int32 × Hp} (hd : 9 ≤ d) (hq : RtX X (some (.int r.1)) r.2) {h : Hp} {v1 : Int32} (e : R_246_9 v1 h = some r) : G X d 246 9 [some (.ref 84), some (.int v1)] [] h := by
  unfold R_246_9 at e
  obtain ⟨x, h2, e1, e2⟩ := bndV_s e
  refine k_246_9 (by omega) (t_248 e1) ?_
  rintro _ rfl
  exact r_246_14 hd hq e2
noncomputable def R_246_7 (h : Hp) : Option (Int32 × Hp) := some (((-1)), h)
theorem r_246_7 {X : GX} {d : Nat} {r : Int32 × Hp} (hd : 9 ≤ d) (hq : RtX X (some (.int r.1)) r.2) {h : Hp} (e : R_246_7 h = some r) : G X d 246 7 [none, none] [] h := by
  unfold R_246_7 at e
  rw [← Option.some.inj e] at hq
  exact k_246_7 hq
noncomputable def R_246_4 (v1 : Int32) (s0 : Int32) (h : Hp) : Option (Int32 × Hp) := if s0 = 0 then R_246_7 h else R_246_9 v1 h
theorem r_246_4 {X : GX} {d : Nat} {r : Int32 × Hp} (hd : 9 ≤ d) (hq : RtX X (some (.int r.1)) r.2) {h : Hp} {v1 : Int32} {s0 : Int32} (e : R_246_4 v1 s0 h = some r) : G X d 246 4 [some (.ref 84), some (.int v1)] [.int s0] h := by
  unfold R_246_4 at e
  refine k_246_4 (fun c => ?_) (fun c => ?_)
  · rw [if_neg c] at e; exact r_246_9 hd hq e
  · rw [if_pos c] at e; exact r_246_7 hd hq e
noncomputable def R_246_0 (v1 : Int32) (h : Hp) : Option (Int32 × Hp) := bndI (S_247 v1 h) (R_246_4 v1)
theorem r_246_0 {X : GX} {d : Nat} {r : Int32 × Hp} (hd : 9 ≤ d) (hq : RtX X (some (.int r.1)) r.2) {h : Hp} {v1 : Int32} (e : R_246_0 v1 h = some r) : G X d 246 0 [some (.ref 84), some (.int v1)] [] h := by
  unfold R_246_0 at e
  obtain ⟨x, h2, e1, e2⟩ := bndI_s e
  refine k_246_0 (by omega) (t_247 e1) ?_
  rintro _ _ ⟨rfl, rfl⟩
  exact r_246_4 hd hq e2
noncomputable def S_246 (v1 : Int32) (h : Hp) : Option (Int32 × Hp) := R_246_0 v1 h
set_option maxRecDepth 100000 in
theorem t_246 {v1 : Int32} {h : Hp} {r : Int32 × Hp} (e : S_246 v1 h = some r) : CI 9 246 [.ref 84, .int v1] h (fun x g => x = r.1 ∧ g = r.2) := by
  refine C.of mo_246 (Nat.le_of_ble_eq_true rfl) (fun X hq => ?_)
  exact r_246_0 (Nat.le_refl _) (hq _ _ ⟨_, rfl, rfl, rfl⟩) e
/-! 252 PlayedTruthModel.ith(II)I -/
noncomputable def R_252_19 (h : Hp) : Option (Int32 × Hp) := some (((-1)), h)
theorem r_252_19 {X : GX} {d : Nat} {r : Int32 × Hp} (hd : 9 ≤ d) (hq : RtX X (some (.int r.1)) r.2) {h : Hp} (e : R_252_19 h = some r) : G X d 252 19 [none, none, none] [] h := by
  unfold R_252_19 at e
  rw [← Option.some.inj e] at hq
  exact k_252_19 hq
noncomputable def R_252_51 (v2 : Int32) (h : Hp) : Option (Int32 × Hp) := gd (IA 92 v2) (some ((h 92 (Int32.toNatClampNeg v2)), h))
theorem r_252_51 {X : GX} {d : Nat} {r : Int32 × Hp} (hd : 9 ≤ d) (hq : RtX X (some (.int r.1)) r.2) {h : Hp} {v2 : Int32} (e : R_252_51 v2 h = some r) : G X d 252 51 [some (.ref 84), none, some (.int v2)] [] h := by
  unfold R_252_51 at e
  have g := gd_s e; clear e; obtain ⟨b0, e⟩ := g
  rw [← Option.some.inj e] at hq
  exact k_252_51 b0 hq
noncomputable def R_252_48 (v2 : Int32) (s1 : Int32) (s2 : Nat) (s0 : Int32) (h : Hp) : Option (Int32 × Hp) := gd (sh s2 = (1, 9) ∧ s2 = 84) (bndV (S_251 s1 s0 h) (R_252_51 v2))
theorem r_252_48 {X : GX} {d : Nat} {r : Int32 × Hp} (hd : 9 ≤ d) (hq : RtX X (some (.int r.1)) r.2) {h : Hp} {v2 : Int32} {s1 : Int32} {s2 : Nat} {s0 : Int32} (e : R_252_48 v2 s1 s2 s0 h = some r) : G X d 252 48 [some (.ref 84), none, some (.int v2)] [.int s0, .int s1, .ref s2] h := by
  unfold R_252_48 at e
  have g := gd_s e; clear e; obtain ⟨⟨o0, q0⟩, e⟩ := g
  subst q0
  obtain ⟨x, h2, e1, e2⟩ := bndV_s e
  refine k_252_48 o0 (by omega) (t_251 e1) ?_
  rintro _ rfl
  exact r_252_51 hd hq e2
noncomputable def R_252_38 (v1 : Int32) (v2 : Int32) (h : Hp) : Option (Int32 × Hp) := bndI (S_249 v1 h) (R_252_48 v2 (h 84 20) 84)
theorem r_252_38 {X : GX} {d : Nat} {r : Int32 × Hp} (hd : 9 ≤ d) (hq : RtX X (some (.int r.1)) r.2) {h : Hp} {v1 : Int32} {v2 : Int32} (e : R_252_38 v1 v2 h = some r) : G X d 252 38 [some (.ref 84), some (.int v1), some (.int v2)] [] h := by
  unfold R_252_38 at e
  obtain ⟨x, h2, e1, e2⟩ := bndI_s e
  refine k_252_38 (by omega) (t_249 e1) ?_
  rintro _ _ ⟨rfl, rfl⟩
  exact r_252_48 hd hq e2
noncomputable def R_252_33 (v1 : Int32) (v2 : Int32) (h : Hp) : Option (Int32 × Hp) := bndV (S_248 v1 h) (R_252_38 v1 v2)
theorem r_252_33 {X : GX} {d : Nat} {r : Int32 × Hp} (hd : 9 ≤ d) (hq : RtX X (some (.int r.1)) r.2) {h : Hp} {v1 : Int32} {v2 : Int32} (e : R_252_33 v1 v2 h = some r) : G X d 252 33 [some (.ref 84), some (.int v1), some (.int v2)] [] h := by
  unfold R_252_33 at e
  obtain ⟨x, h2, e1, e2⟩ := bndV_s e
  refine k_252_33 (by omega) (t_248 e1) ?_
  rintro _ rfl
  exact r_252_38 hd hq e2
noncomputable def R_252_30 (h : Hp) : Option (Int32 × Hp) := some (((-3)), h)
theorem r_252_30 {X : GX} {d : Nat} {r : Int32 × Hp} (hd : 9 ≤ d) (hq : RtX X (some (.int r.1)) r.2) {h : Hp} (e : R_252_30 h = some r) : G X d 252 30 [none, none, none] [] h := by
  unfold R_252_30 at e
  rw [← Option.some.inj e] at hq
  exact k_252_30 hq
noncomputable def R_252_27 (v1 : Int32) (v2 : Int32) (s1 : Int32) (s0 : Int32) (h : Hp) : Option (Int32 × Hp) := if s1 < s0 then R_252_33 v1 v2 h else R_252_30 h
theorem r_252_27 {X : GX} {d : Nat} {r : Int32 × Hp} (hd : 9 ≤ d) (hq : RtX X (some (.int r.1)) r.2) {h : Hp} {v1 : Int32} {v2 : Int32} {s1 : Int32} {s0 : Int32} (e : R_252_27 v1 v2 s1 s0 h = some r) : G X d 252 27 [some (.ref 84), some (.int v1), some (.int v2)] [.int s0, .int s1] h := by
  unfold R_252_27 at e
  refine k_252_27 (fun c => ?_) (fun c => ?_)
  · rw [if_pos c] at e; exact r_252_33 hd hq e
  · rw [if_neg c] at e; exact r_252_30 hd hq e
noncomputable def R_252_21 (v1 : Int32) (v2 : Int32) (h : Hp) : Option (Int32 × Hp) := bndI (S_249 v1 h) (R_252_27 v1 v2 v2)
theorem r_252_21 {X : GX} {d : Nat} {r : Int32 × Hp} (hd : 9 ≤ d) (hq : RtX X (some (.int r.1)) r.2) {h : Hp} {v1 : Int32} {v2 : Int32} (e : R_252_21 v1 v2 h = some r) : G X d 252 21 [some (.ref 84), some (.int v1), some (.int v2)] [] h := by
  unfold R_252_21 at e
  obtain ⟨x, h2, e1, e2⟩ := bndI_s e
  refine k_252_21 (by omega) (t_249 e1) ?_
  rintro _ _ ⟨rfl, rfl⟩
  exact r_252_27 hd hq e2
noncomputable def R_252_16 (v1 : Int32) (v2 : Int32) (s0 : Int32) (h : Hp) : Option (Int32 × Hp) := if s0 = 0 then R_252_19 h else R_252_21 v1 v2 h
theorem r_252_16 {X : GX} {d : Nat} {r : Int32 × Hp} (hd : 9 ≤ d) (hq : RtX X (some (.int r.1)) r.2) {h : Hp} {v1 : Int32} {v2 : Int32} {s0 : Int32} (e : R_252_16 v1 v2 s0 h = some r) : G X d 252 16 [some (.ref 84), some (.int v1), some (.int v2)] [.int s0] h := by
  unfold R_252_16 at e
  refine k_252_16 (fun c => ?_) (fun c => ?_)
  · rw [if_neg c] at e; exact r_252_21 hd hq e
  · rw [if_pos c] at e; exact r_252_19 hd hq e
noncomputable def R_252_7 (v1 : Int32) (v2 : Int32) (h : Hp) : Option (Int32 × Hp) := bndI (S_177 (Int32.toInt64 v2) 0 3 h) (R_252_16 v1 v2)
theorem r_252_7 {X : GX} {d : Nat} {r : Int32 × Hp} (hd : 9 ≤ d) (hq : RtX X (some (.int r.1)) r.2) {h : Hp} {v1 : Int32} {v2 : Int32} (e : R_252_7 v1 v2 h = some r) : G X d 252 7 [some (.ref 84), some (.int v1), some (.int v2)] [] h := by
  unfold R_252_7 at e
  obtain ⟨x, h2, e1, e2⟩ := bndI_s e
  refine k_252_7 (by omega) (t_177 e1) ?_
  rintro _ _ ⟨rfl, rfl⟩
  exact r_252_16 hd hq e2
noncomputable def R_252_4 (v1 : Int32) (v2 : Int32) (s0 : Int32) (h : Hp) : Option (Int32 × Hp) := if s0 = 0 then R_252_19 h else R_252_7 v1 v2 h
theorem r_252_4 {X : GX} {d : Nat} {r : Int32 × Hp} (hd : 9 ≤ d) (hq : RtX X (some (.int r.1)) r.2) {h : Hp} {v1 : Int32} {v2 : Int32} {s0 : Int32} (e : R_252_4 v1 v2 s0 h = some r) : G X d 252 4 [some (.ref 84), some (.int v1), some (.int v2)] [.int s0] h := by
  unfold R_252_4 at e
  refine k_252_4 (fun c => ?_) (fun c => ?_)
  · rw [if_pos c] at e; exact r_252_19 hd hq e
  · rw [if_neg c] at e; exact r_252_7 hd hq e
noncomputable def R_252_0 (v1 : Int32) (v2 : Int32) (h : Hp) : Option (Int32 × Hp) := bndI (S_247 v1 h) (R_252_4 v1 v2)
theorem r_252_0 {X : GX} {d : Nat} {r : Int32 × Hp} (hd : 9 ≤ d) (hq : RtX X (some (.int r.1)) r.2) {h : Hp} {v1 : Int32} {v2 : Int32} (e : R_252_0 v1 v2 h = some r) : G X d 252 0 [some (.ref 84), some (.int v1), some (.int v2)] [] h := by
  unfold R_252_0 at e
  obtain ⟨x, h2, e1, e2⟩ := bndI_s e
  refine k_252_0 (by omega) (t_247 e1) ?_
  rintro _ _ ⟨rfl, rfl⟩
  exact r_252_4 hd hq e2
noncomputable def S_252 (v1 : Int32) (v2 : Int32) (h : Hp) : Option (Int32 × Hp) := R_252_0 v1 v2 h
set_option maxRecDepth 100000 in
theorem t_252 {v1 : Int32} {v2 : Int32} {h : Hp} {r : Int32 × Hp} (e : S_252 v1 v2 h = some r) : CI 9 252 [.ref 84, .int v1, .int v2] h (fun x g => x = r.1 ∧ g = r.2) := by
  refine C.of mo_252 (Nat.le_of_ble_eq_true rfl) (fun X hq => ?_)
  exact r_252_0 (Nat.le_refl _) (hq _ _ ⟨_, rfl, rfl, rfl⟩) e
