/-! part 41.e: by program (wip/whole/sem.py) -/
/-! 164 PlayedTruth$Acting.forgetBodies()V -/
noncomputable def R_164_0 (h : Hp) : Option (Int32 × Hp) := some (0, (wr h 61 1 0))
theorem r_164_0 {X : GX} {d : Nat} {r : Int32 × Hp} (hd : 1 ≤ d) (hq : RtX X none r.2) {h : Hp} (e : R_164_0 h = some r) : G X d 164 0 [some (.ref 61)] [] h := by
  unfold R_164_0 at e
  rw [← Option.some.inj e] at hq
  exact k_164_0 hq
noncomputable def S_164 (h : Hp) : Option (Int32 × Hp) := R_164_0 h
set_option maxRecDepth 100000 in
theorem t_164 {h : Hp} {r : Int32 × Hp} (e : S_164 h = some r) : CV 1 164 [.ref 61] h (fun g => g = r.2) := by
  refine C.of mo_164 (Nat.le_of_ble_eq_true rfl) (fun X hq => ?_)
  exact r_164_0 (Nat.le_refl _) (hq _ _ ⟨rfl, rfl⟩) e
/-! 168 PlayedTruth$Acting.part(II)I -/
noncomputable def R_168_11 (v1 : Int32) (v2 : Int32) (h : Hp) : Option (Int32 × Hp) := gd (¬ v2 = 0) (some ((v1 / v2), h))
theorem r_168_11 {X : GX} {d : Nat} {r : Int32 × Hp} (hd : 1 ≤ d) (hq : RtX X (some (.int r.1)) r.2) {h : Hp} {v1 : Int32} {v2 : Int32} (e : R_168_11 v1 v2 h = some r) : G X d 168 11 [none, some (.int v1), some (.int v2)] [] h := by
  unfold R_168_11 at e
  have g := gd_s e; clear e; obtain ⟨n0, e⟩ := g
  rw [← Option.some.inj e] at hq
  exact k_168_11 n0 hq
noncomputable def R_168_4 (h : Hp) : Option (Int32 × Hp) := some (0, (wr h 61 2 1))
theorem r_168_4 {X : GX} {d : Nat} {r : Int32 × Hp} (hd : 1 ≤ d) (hq : RtX X (some (.int r.1)) r.2) {h : Hp} (e : R_168_4 h = some r) : G X d 168 4 [some (.ref 61), none, none] [] h := by
  unfold R_168_4 at e
  rw [← Option.some.inj e] at hq
  exact k_168_4 hq
noncomputable def R_168_0 (v1 : Int32) (v2 : Int32) (h : Hp) : Option (Int32 × Hp) := if v2 = 0 then R_168_4 h else R_168_11 v1 v2 h
theorem r_168_0 {X : GX} {d : Nat} {r : Int32 × Hp} (hd : 1 ≤ d) (hq : RtX X (some (.int r.1)) r.2) {h : Hp} {v1 : Int32} {v2 : Int32} (e : R_168_0 v1 v2 h = some r) : G X d 168 0 [some (.ref 61), some (.int v1), some (.int v2)] [] h := by
  unfold R_168_0 at e
  refine k_168_0 (fun c => ?_) (fun c => ?_)
  · rw [if_neg c] at e; exact r_168_11 hd hq e
  · rw [if_pos c] at e; exact r_168_4 hd hq e
noncomputable def S_168 (v1 : Int32) (v2 : Int32) (h : Hp) : Option (Int32 × Hp) := R_168_0 v1 v2 h
set_option maxRecDepth 100000 in
theorem t_168 {v1 : Int32} {v2 : Int32} {h : Hp} {r : Int32 × Hp} (e : S_168 v1 v2 h = some r) : CI 1 168 [.ref 61, .int v1, .int v2] h (fun x g => x = r.1 ∧ g = r.2) := by
  refine C.of mo_168 (Nat.le_of_ble_eq_true rfl) (fun X hq => ?_)
  exact r_168_0 (Nat.le_refl _) (hq _ _ ⟨_, rfl, rfl, rfl⟩) e
/-! 166 PlayedTruth$Acting.does(III)I -/
noncomputable def R_166_20 (c_166 : Int32 → Int32 → Int32 → Hp → Option (Int32 × Hp)) (c_167 : Int32 → Int32 → Int32 → Hp → Option (Int32 × Hp)) (s0 : Int32) (h : Hp) : Option (Int32 × Hp) := some (s0, h)
theorem r_166_20 {X : GX} {d : Nat} {r : Int32 × Hp} {c_166 : Int32 → Int32 → Int32 → Hp → Option (Int32 × Hp)} {c_167 : Int32 → Int32 → Int32 → Hp → Option (Int32 × Hp)} {dg : Nat} (hd : 2 ≤ d) (hgd : dg < d) (hc_166 : ∀ {v1 : Int32} {v2 : Int32} {v3 : Int32} {h : Hp} {r : Int32 × Hp}, c_166 v1 v2 v3 h = some r → CI dg 166 [.ref 61, .int v1, .int v2, .int v3] h (fun x g => x = r.1 ∧ g = r.2)) (hc_167 : ∀ {v1 : Int32} {v2 : Int32} {v3 : Int32} {h : Hp} {r : Int32 × Hp}, c_167 v1 v2 v3 h = some r → CI dg 167 [.ref 61, .int v1, .int v2, .int v3] h (fun x g => x = r.1 ∧ g = r.2)) (hq : RtX X (some (.int r.1)) r.2) {h : Hp} {s0 : Int32} (e : R_166_20 c_166 c_167 s0 h = some r) : G X d 166 20 [none, none, none, none] [.int s0] h := by
  unfold R_166_20 at e
  rw [← Option.some.inj e] at hq
  exact k_166_20 hq
noncomputable def R_166_0 (c_166 : Int32 → Int32 → Int32 → Hp → Option (Int32 × Hp)) (c_167 : Int32 → Int32 → Int32 → Hp → Option (Int32 × Hp)) (v1 : Int32) (v2 : Int32) (v3 : Int32) (h : Hp) : Option (Int32 × Hp) := gd (vp_in (((h 61 3) * 4) + v1) 24) (bndI (c_167 (bodyOf (Int32.toNatClampNeg (((h 61 3) * 4) + v1))) v2 (v3 + 1) h) (R_166_20 c_166 c_167))
theorem r_166_0 {X : GX} {d : Nat} {r : Int32 × Hp} {c_166 : Int32 → Int32 → Int32 → Hp → Option (Int32 × Hp)} {c_167 : Int32 → Int32 → Int32 → Hp → Option (Int32 × Hp)} {dg : Nat} (hd : 2 ≤ d) (hgd : dg < d) (hc_166 : ∀ {v1 : Int32} {v2 : Int32} {v3 : Int32} {h : Hp} {r : Int32 × Hp}, c_166 v1 v2 v3 h = some r → CI dg 166 [.ref 61, .int v1, .int v2, .int v3] h (fun x g => x = r.1 ∧ g = r.2)) (hc_167 : ∀ {v1 : Int32} {v2 : Int32} {v3 : Int32} {h : Hp} {r : Int32 × Hp}, c_167 v1 v2 v3 h = some r → CI dg 167 [.ref 61, .int v1, .int v2, .int v3] h (fun x g => x = r.1 ∧ g = r.2)) (hq : RtX X (some (.int r.1)) r.2) {h : Hp} {v1 : Int32} {v2 : Int32} {v3 : Int32} (e : R_166_0 c_166 c_167 v1 v2 v3 h = some r) : G X d 166 0 [some (.ref 61), some (.int v1), some (.int v2), some (.int v3)] [] h := by
  unfold R_166_0 at e
  have g := gd_s e; clear e; obtain ⟨b0, e⟩ := g
  obtain ⟨x, h2, e1, e2⟩ := bndI_s e
  refine k_166_0 b0 hgd (hc_167 e1) ?_
  rintro _ _ ⟨rfl, rfl⟩
  exact r_166_20 hd hgd hc_166 hc_167 hq e2
/-! 167 PlayedTruth$Acting.run(III)I -/
noncomputable def R_167_13 (c_166 : Int32 → Int32 → Int32 → Hp → Option (Int32 × Hp)) (c_167 : Int32 → Int32 → Int32 → Hp → Option (Int32 × Hp)) (h : Hp) : Option (Int32 × Hp) := some (0, h)
theorem r_167_13 {X : GX} {d : Nat} {r : Int32 × Hp} {c_166 : Int32 → Int32 → Int32 → Hp → Option (Int32 × Hp)} {c_167 : Int32 → Int32 → Int32 → Hp → Option (Int32 × Hp)} {dg : Nat} (hd : 2 ≤ d) (hgd : dg < d) (hc_166 : ∀ {v1 : Int32} {v2 : Int32} {v3 : Int32} {h : Hp} {r : Int32 × Hp}, c_166 v1 v2 v3 h = some r → CI dg 166 [.ref 61, .int v1, .int v2, .int v3] h (fun x g => x = r.1 ∧ g = r.2)) (hc_167 : ∀ {v1 : Int32} {v2 : Int32} {v3 : Int32} {h : Hp} {r : Int32 × Hp}, c_167 v1 v2 v3 h = some r → CI dg 167 [.ref 61, .int v1, .int v2, .int v3] h (fun x g => x = r.1 ∧ g = r.2)) (hq : RtX X (some (.int r.1)) r.2) {h : Hp} (e : R_167_13 c_166 c_167 h = some r) : G X d 167 13 [none, none, none, none, none] [] h := by
  unfold R_167_13 at e
  rw [← Option.some.inj e] at hq
  exact k_167_13 hq
noncomputable def R_167_144 (c_166 : Int32 → Int32 → Int32 → Hp → Option (Int32 × Hp)) (c_167 : Int32 → Int32 → Int32 → Hp → Option (Int32 × Hp)) (v2 : Int32) (h : Hp) : Option (Int32 × Hp) := some (((v2 * 6) + (h 61 4)), h)
theorem r_167_144 {X : GX} {d : Nat} {r : Int32 × Hp} {c_166 : Int32 → Int32 → Int32 → Hp → Option (Int32 × Hp)} {c_167 : Int32 → Int32 → Int32 → Hp → Option (Int32 × Hp)} {dg : Nat} (hd : 2 ≤ d) (hgd : dg < d) (hc_166 : ∀ {v1 : Int32} {v2 : Int32} {v3 : Int32} {h : Hp} {r : Int32 × Hp}, c_166 v1 v2 v3 h = some r → CI dg 166 [.ref 61, .int v1, .int v2, .int v3] h (fun x g => x = r.1 ∧ g = r.2)) (hc_167 : ∀ {v1 : Int32} {v2 : Int32} {v3 : Int32} {h : Hp} {r : Int32 × Hp}, c_167 v1 v2 v3 h = some r → CI dg 167 [.ref 61, .int v1, .int v2, .int v3] h (fun x g => x = r.1 ∧ g = r.2)) (hq : RtX X (some (.int r.1)) r.2) {h : Hp} {v2 : Int32} (e : R_167_144 c_166 c_167 v2 h = some r) : G X d 167 144 [some (.ref 61), none, some (.int v2), none, none] [] h := by
  unfold R_167_144 at e
  rw [← Option.some.inj e] at hq
  exact k_167_144 hq
noncomputable def R_167_162 (c_166 : Int32 → Int32 → Int32 → Hp → Option (Int32 × Hp)) (c_167 : Int32 → Int32 → Int32 → Hp → Option (Int32 × Hp)) (s0 : Int32) (h : Hp) : Option (Int32 × Hp) := some ((s0 - (h 61 5)), h)
theorem r_167_162 {X : GX} {d : Nat} {r : Int32 × Hp} {c_166 : Int32 → Int32 → Int32 → Hp → Option (Int32 × Hp)} {c_167 : Int32 → Int32 → Int32 → Hp → Option (Int32 × Hp)} {dg : Nat} (hd : 2 ≤ d) (hgd : dg < d) (hc_166 : ∀ {v1 : Int32} {v2 : Int32} {v3 : Int32} {h : Hp} {r : Int32 × Hp}, c_166 v1 v2 v3 h = some r → CI dg 166 [.ref 61, .int v1, .int v2, .int v3] h (fun x g => x = r.1 ∧ g = r.2)) (hc_167 : ∀ {v1 : Int32} {v2 : Int32} {v3 : Int32} {h : Hp} {r : Int32 × Hp}, c_167 v1 v2 v3 h = some r → CI dg 167 [.ref 61, .int v1, .int v2, .int v3] h (fun x g => x = r.1 ∧ g = r.2)) (hq : RtX X (some (.int r.1)) r.2) {h : Hp} {s0 : Int32} (e : R_167_162 c_166 c_167 s0 h = some r) : G X d 167 162 [some (.ref 61), none, none, none, none] [.int s0] h := by
  unfold R_167_162 at e
  rw [← Option.some.inj e] at hq
  exact k_167_162 hq
noncomputable def R_167_154 (c_166 : Int32 → Int32 → Int32 → Hp → Option (Int32 × Hp)) (c_167 : Int32 → Int32 → Int32 → Hp → Option (Int32 × Hp)) (v2 : Int32) (v4 : Int32) (h : Hp) : Option (Int32 × Hp) := bndI (c_166 0 v2 v4 h) (R_167_162 c_166 c_167)
theorem r_167_154 {X : GX} {d : Nat} {r : Int32 × Hp} {c_166 : Int32 → Int32 → Int32 → Hp → Option (Int32 × Hp)} {c_167 : Int32 → Int32 → Int32 → Hp → Option (Int32 × Hp)} {dg : Nat} (hd : 2 ≤ d) (hgd : dg < d) (hc_166 : ∀ {v1 : Int32} {v2 : Int32} {v3 : Int32} {h : Hp} {r : Int32 × Hp}, c_166 v1 v2 v3 h = some r → CI dg 166 [.ref 61, .int v1, .int v2, .int v3] h (fun x g => x = r.1 ∧ g = r.2)) (hc_167 : ∀ {v1 : Int32} {v2 : Int32} {v3 : Int32} {h : Hp} {r : Int32 × Hp}, c_167 v1 v2 v3 h = some r → CI dg 167 [.ref 61, .int v1, .int v2, .int v3] h (fun x g => x = r.1 ∧ g = r.2)) (hq : RtX X (some (.int r.1)) r.2) {h : Hp} {v2 : Int32} {v4 : Int32} (e : R_167_154 c_166 c_167 v2 v4 h = some r) : G X d 167 154 [some (.ref 61), none, some (.int v2), none, some (.int v4)] [] h := by
  unfold R_167_154 at e
  obtain ⟨x, h2, e1, e2⟩ := bndI_s e
  refine k_167_154 hgd (hc_166 e1) ?_
  rintro _ _ ⟨rfl, rfl⟩
  exact r_167_162 hd hgd hc_166 hc_167 hq e2
noncomputable def R_167_184 (c_166 : Int32 → Int32 → Int32 → Hp → Option (Int32 × Hp)) (c_167 : Int32 → Int32 → Int32 → Hp → Option (Int32 × Hp)) (s0 : Int32) (h : Hp) : Option (Int32 × Hp) := some (s0, h)
theorem r_167_184 {X : GX} {d : Nat} {r : Int32 × Hp} {c_166 : Int32 → Int32 → Int32 → Hp → Option (Int32 × Hp)} {c_167 : Int32 → Int32 → Int32 → Hp → Option (Int32 × Hp)} {dg : Nat} (hd : 2 ≤ d) (hgd : dg < d) (hc_166 : ∀ {v1 : Int32} {v2 : Int32} {v3 : Int32} {h : Hp} {r : Int32 × Hp}, c_166 v1 v2 v3 h = some r → CI dg 166 [.ref 61, .int v1, .int v2, .int v3] h (fun x g => x = r.1 ∧ g = r.2)) (hc_167 : ∀ {v1 : Int32} {v2 : Int32} {v3 : Int32} {h : Hp} {r : Int32 × Hp}, c_167 v1 v2 v3 h = some r → CI dg 167 [.ref 61, .int v1, .int v2, .int v3] h (fun x g => x = r.1 ∧ g = r.2)) (hq : RtX X (some (.int r.1)) r.2) {h : Hp} {s0 : Int32} (e : R_167_184 c_166 c_167 s0 h = some r) : G X d 167 184 [none, none, none, none, none] [.int s0] h := by
  unfold R_167_184 at e
  rw [← Option.some.inj e] at hq
  exact k_167_184 hq
noncomputable def R_167_168 (c_166 : Int32 → Int32 → Int32 → Hp → Option (Int32 × Hp)) (c_167 : Int32 → Int32 → Int32 → Hp → Option (Int32 × Hp)) (v2 : Int32) (h : Hp) : Option (Int32 × Hp) := bndI (S_168 v2 (((h 61 5) + (h 61 4)) - 3) h) (R_167_184 c_166 c_167)
theorem r_167_168 {X : GX} {d : Nat} {r : Int32 × Hp} {c_166 : Int32 → Int32 → Int32 → Hp → Option (Int32 × Hp)} {c_167 : Int32 → Int32 → Int32 → Hp → Option (Int32 × Hp)} {dg : Nat} (hd : 2 ≤ d) (hgd : dg < d) (hc_166 : ∀ {v1 : Int32} {v2 : Int32} {v3 : Int32} {h : Hp} {r : Int32 × Hp}, c_166 v1 v2 v3 h = some r → CI dg 166 [.ref 61, .int v1, .int v2, .int v3] h (fun x g => x = r.1 ∧ g = r.2)) (hc_167 : ∀ {v1 : Int32} {v2 : Int32} {v3 : Int32} {h : Hp} {r : Int32 × Hp}, c_167 v1 v2 v3 h = some r → CI dg 167 [.ref 61, .int v1, .int v2, .int v3] h (fun x g => x = r.1 ∧ g = r.2)) (hq : RtX X (some (.int r.1)) r.2) {h : Hp} {v2 : Int32} (e : R_167_168 c_166 c_167 v2 h = some r) : G X d 167 168 [some (.ref 61), none, some (.int v2), none, none] [] h := by
  unfold R_167_168 at e
  obtain ⟨x, h2, e1, e2⟩ := bndI_s e
  refine k_167_168 (by omega) (t_168 e1) ?_
  rintro _ _ ⟨rfl, rfl⟩
  exact r_167_184 hd hgd hc_166 hc_167 hq e2
noncomputable def R_167_201 (c_166 : Int32 → Int32 → Int32 → Hp → Option (Int32 × Hp)) (c_167 : Int32 → Int32 → Int32 → Hp → Option (Int32 × Hp)) (s1 : Int32) (s0 : Int32) (h : Hp) : Option (Int32 × Hp) := some ((s1 + s0), h)
theorem r_167_201 {X : GX} {d : Nat} {r : Int32 × Hp} {c_166 : Int32 → Int32 → Int32 → Hp → Option (Int32 × Hp)} {c_167 : Int32 → Int32 → Int32 → Hp → Option (Int32 × Hp)} {dg : Nat} (hd : 2 ≤ d) (hgd : dg < d) (hc_166 : ∀ {v1 : Int32} {v2 : Int32} {v3 : Int32} {h : Hp} {r : Int32 × Hp}, c_166 v1 v2 v3 h = some r → CI dg 166 [.ref 61, .int v1, .int v2, .int v3] h (fun x g => x = r.1 ∧ g = r.2)) (hc_167 : ∀ {v1 : Int32} {v2 : Int32} {v3 : Int32} {h : Hp} {r : Int32 × Hp}, c_167 v1 v2 v3 h = some r → CI dg 167 [.ref 61, .int v1, .int v2, .int v3] h (fun x g => x = r.1 ∧ g = r.2)) (hq : RtX X (some (.int r.1)) r.2) {h : Hp} {s1 : Int32} {s0 : Int32} (e : R_167_201 c_166 c_167 s1 s0 h = some r) : G X d 167 201 [none, none, none, none, none] [.int s0, .int s1] h := by
  unfold R_167_201 at e
  rw [← Option.some.inj e] at hq
  exact k_167_201 hq
noncomputable def R_167_193 (c_166 : Int32 → Int32 → Int32 → Hp → Option (Int32 × Hp)) (c_167 : Int32 → Int32 → Int32 → Hp → Option (Int32 × Hp)) (v2 : Int32) (v4 : Int32) (s0 : Int32) (h : Hp) : Option (Int32 × Hp) := bndI (c_166 2 v2 v4 h) (R_167_201 c_166 c_167 s0)
theorem r_167_193 {X : GX} {d : Nat} {r : Int32 × Hp} {c_166 : Int32 → Int32 → Int32 → Hp → Option (Int32 × Hp)} {c_167 : Int32 → Int32 → Int32 → Hp → Option (Int32 × Hp)} {dg : Nat} (hd : 2 ≤ d) (hgd : dg < d) (hc_166 : ∀ {v1 : Int32} {v2 : Int32} {v3 : Int32} {h : Hp} {r : Int32 × Hp}, c_166 v1 v2 v3 h = some r → CI dg 166 [.ref 61, .int v1, .int v2, .int v3] h (fun x g => x = r.1 ∧ g = r.2)) (hc_167 : ∀ {v1 : Int32} {v2 : Int32} {v3 : Int32} {h : Hp} {r : Int32 × Hp}, c_167 v1 v2 v3 h = some r → CI dg 167 [.ref 61, .int v1, .int v2, .int v3] h (fun x g => x = r.1 ∧ g = r.2)) (hq : RtX X (some (.int r.1)) r.2) {h : Hp} {v2 : Int32} {v4 : Int32} {s0 : Int32} (e : R_167_193 c_166 c_167 v2 v4 s0 h = some r) : G X d 167 193 [some (.ref 61), none, some (.int v2), none, some (.int v4)] [.int s0] h := by
  unfold R_167_193 at e
  obtain ⟨x, h2, e1, e2⟩ := bndI_s e
  refine k_167_193 hgd (hc_166 e1) ?_
  rintro _ _ ⟨rfl, rfl⟩
  exact r_167_201 hd hgd hc_166 hc_167 hq e2
noncomputable def R_167_185 (c_166 : Int32 → Int32 → Int32 → Hp → Option (Int32 × Hp)) (c_167 : Int32 → Int32 → Int32 → Hp → Option (Int32 × Hp)) (v2 : Int32) (v4 : Int32) (h : Hp) : Option (Int32 × Hp) := bndI (c_166 1 v2 v4 h) (R_167_193 c_166 c_167 v2 v4)
theorem r_167_185 {X : GX} {d : Nat} {r : Int32 × Hp} {c_166 : Int32 → Int32 → Int32 → Hp → Option (Int32 × Hp)} {c_167 : Int32 → Int32 → Int32 → Hp → Option (Int32 × Hp)} {dg : Nat} (hd : 2 ≤ d) (hgd : dg < d) (hc_166 : ∀ {v1 : Int32} {v2 : Int32} {v3 : Int32} {h : Hp} {r : Int32 × Hp}, c_166 v1 v2 v3 h = some r → CI dg 166 [.ref 61, .int v1, .int v2, .int v3] h (fun x g => x = r.1 ∧ g = r.2)) (hc_167 : ∀ {v1 : Int32} {v2 : Int32} {v3 : Int32} {h : Hp} {r : Int32 × Hp}, c_167 v1 v2 v3 h = some r → CI dg 167 [.ref 61, .int v1, .int v2, .int v3] h (fun x g => x = r.1 ∧ g = r.2)) (hq : RtX X (some (.int r.1)) r.2) {h : Hp} {v2 : Int32} {v4 : Int32} (e : R_167_185 c_166 c_167 v2 v4 h = some r) : G X d 167 185 [some (.ref 61), none, some (.int v2), none, some (.int v4)] [] h := by
  unfold R_167_185 at e
  obtain ⟨x, h2, e1, e2⟩ := bndI_s e
  refine k_167_185 hgd (hc_166 e1) ?_
  rintro _ _ ⟨rfl, rfl⟩
  exact r_167_193 hd hgd hc_166 hc_167 hq e2
noncomputable def R_167_212 (c_166 : Int32 → Int32 → Int32 → Hp → Option (Int32 × Hp)) (c_167 : Int32 → Int32 → Int32 → Hp → Option (Int32 × Hp)) (s0 : Int32) (h : Hp) : Option (Int32 × Hp) := some ((s0 ^^^ 10), h)
theorem r_167_212 {X : GX} {d : Nat} {r : Int32 × Hp} {c_166 : Int32 → Int32 → Int32 → Hp → Option (Int32 × Hp)} {c_167 : Int32 → Int32 → Int32 → Hp → Option (Int32 × Hp)} {dg : Nat} (hd : 2 ≤ d) (hgd : dg < d) (hc_166 : ∀ {v1 : Int32} {v2 : Int32} {v3 : Int32} {h : Hp} {r : Int32 × Hp}, c_166 v1 v2 v3 h = some r → CI dg 166 [.ref 61, .int v1, .int v2, .int v3] h (fun x g => x = r.1 ∧ g = r.2)) (hc_167 : ∀ {v1 : Int32} {v2 : Int32} {v3 : Int32} {h : Hp} {r : Int32 × Hp}, c_167 v1 v2 v3 h = some r → CI dg 167 [.ref 61, .int v1, .int v2, .int v3] h (fun x g => x = r.1 ∧ g = r.2)) (hq : RtX X (some (.int r.1)) r.2) {h : Hp} {s0 : Int32} (e : R_167_212 c_166 c_167 s0 h = some r) : G X d 167 212 [none, none, none, none, none] [.int s0] h := by
  unfold R_167_212 at e
  rw [← Option.some.inj e] at hq
  exact k_167_212 hq
noncomputable def R_167_203 (c_166 : Int32 → Int32 → Int32 → Hp → Option (Int32 × Hp)) (c_167 : Int32 → Int32 → Int32 → Hp → Option (Int32 × Hp)) (v2 : Int32) (v4 : Int32) (h : Hp) : Option (Int32 × Hp) := bndI (c_167 10 v2 v4 h) (R_167_212 c_166 c_167)
theorem r_167_203 {X : GX} {d : Nat} {r : Int32 × Hp} {c_166 : Int32 → Int32 → Int32 → Hp → Option (Int32 × Hp)} {c_167 : Int32 → Int32 → Int32 → Hp → Option (Int32 × Hp)} {dg : Nat} (hd : 2 ≤ d) (hgd : dg < d) (hc_166 : ∀ {v1 : Int32} {v2 : Int32} {v3 : Int32} {h : Hp} {r : Int32 × Hp}, c_166 v1 v2 v3 h = some r → CI dg 166 [.ref 61, .int v1, .int v2, .int v3] h (fun x g => x = r.1 ∧ g = r.2)) (hc_167 : ∀ {v1 : Int32} {v2 : Int32} {v3 : Int32} {h : Hp} {r : Int32 × Hp}, c_167 v1 v2 v3 h = some r → CI dg 167 [.ref 61, .int v1, .int v2, .int v3] h (fun x g => x = r.1 ∧ g = r.2)) (hq : RtX X (some (.int r.1)) r.2) {h : Hp} {v2 : Int32} {v4 : Int32} (e : R_167_203 c_166 c_167 v2 v4 h = some r) : G X d 167 203 [some (.ref 61), none, some (.int v2), none, some (.int v4)] [] h := by
  unfold R_167_203 at e
  obtain ⟨x, h2, e1, e2⟩ := bndI_s e
  refine k_167_203 hgd (hc_167 e1) ?_
  rintro _ _ ⟨rfl, rfl⟩
  exact r_167_212 hd hgd hc_166 hc_167 hq e2
noncomputable def R_167_225 (c_166 : Int32 → Int32 → Int32 → Hp → Option (Int32 × Hp)) (c_167 : Int32 → Int32 → Int32 → Hp → Option (Int32 × Hp)) (s0 : Int32) (h : Hp) : Option (Int32 × Hp) := some ((s0 * 2), h)
theorem r_167_225 {X : GX} {d : Nat} {r : Int32 × Hp} {c_166 : Int32 → Int32 → Int32 → Hp → Option (Int32 × Hp)} {c_167 : Int32 → Int32 → Int32 → Hp → Option (Int32 × Hp)} {dg : Nat} (hd : 2 ≤ d) (hgd : dg < d) (hc_166 : ∀ {v1 : Int32} {v2 : Int32} {v3 : Int32} {h : Hp} {r : Int32 × Hp}, c_166 v1 v2 v3 h = some r → CI dg 166 [.ref 61, .int v1, .int v2, .int v3] h (fun x g => x = r.1 ∧ g = r.2)) (hc_167 : ∀ {v1 : Int32} {v2 : Int32} {v3 : Int32} {h : Hp} {r : Int32 × Hp}, c_167 v1 v2 v3 h = some r → CI dg 167 [.ref 61, .int v1, .int v2, .int v3] h (fun x g => x = r.1 ∧ g = r.2)) (hq : RtX X (some (.int r.1)) r.2) {h : Hp} {s0 : Int32} (e : R_167_225 c_166 c_167 s0 h = some r) : G X d 167 225 [none, none, none, none, none] [.int s0] h := by
  unfold R_167_225 at e
  rw [← Option.some.inj e] at hq
  exact k_167_225 hq
noncomputable def R_167_216 (c_166 : Int32 → Int32 → Int32 → Hp → Option (Int32 × Hp)) (c_167 : Int32 → Int32 → Int32 → Hp → Option (Int32 × Hp)) (v2 : Int32) (v4 : Int32) (h : Hp) : Option (Int32 × Hp) := bndI (c_167 11 v2 v4 h) (R_167_225 c_166 c_167)
theorem r_167_216 {X : GX} {d : Nat} {r : Int32 × Hp} {c_166 : Int32 → Int32 → Int32 → Hp → Option (Int32 × Hp)} {c_167 : Int32 → Int32 → Int32 → Hp → Option (Int32 × Hp)} {dg : Nat} (hd : 2 ≤ d) (hgd : dg < d) (hc_166 : ∀ {v1 : Int32} {v2 : Int32} {v3 : Int32} {h : Hp} {r : Int32 × Hp}, c_166 v1 v2 v3 h = some r → CI dg 166 [.ref 61, .int v1, .int v2, .int v3] h (fun x g => x = r.1 ∧ g = r.2)) (hc_167 : ∀ {v1 : Int32} {v2 : Int32} {v3 : Int32} {h : Hp} {r : Int32 × Hp}, c_167 v1 v2 v3 h = some r → CI dg 167 [.ref 61, .int v1, .int v2, .int v3] h (fun x g => x = r.1 ∧ g = r.2)) (hq : RtX X (some (.int r.1)) r.2) {h : Hp} {v2 : Int32} {v4 : Int32} (e : R_167_216 c_166 c_167 v2 v4 h = some r) : G X d 167 216 [some (.ref 61), none, some (.int v2), none, some (.int v4)] [] h := by
  unfold R_167_216 at e
  obtain ⟨x, h2, e1, e2⟩ := bndI_s e
  refine k_167_216 hgd (hc_167 e1) ?_
  rintro _ _ ⟨rfl, rfl⟩
  exact r_167_225 hd hgd hc_166 hc_167 hq e2
noncomputable def R_167_237 (c_166 : Int32 → Int32 → Int32 → Hp → Option (Int32 × Hp)) (c_167 : Int32 → Int32 → Int32 → Hp → Option (Int32 × Hp)) (s0 : Int32) (h : Hp) : Option (Int32 × Hp) := some ((s0 + 6), h)
theorem r_167_237 {X : GX} {d : Nat} {r : Int32 × Hp} {c_166 : Int32 → Int32 → Int32 → Hp → Option (Int32 × Hp)} {c_167 : Int32 → Int32 → Int32 → Hp → Option (Int32 × Hp)} {dg : Nat} (hd : 2 ≤ d) (hgd : dg < d) (hc_166 : ∀ {v1 : Int32} {v2 : Int32} {v3 : Int32} {h : Hp} {r : Int32 × Hp}, c_166 v1 v2 v3 h = some r → CI dg 166 [.ref 61, .int v1, .int v2, .int v3] h (fun x g => x = r.1 ∧ g = r.2)) (hc_167 : ∀ {v1 : Int32} {v2 : Int32} {v3 : Int32} {h : Hp} {r : Int32 × Hp}, c_167 v1 v2 v3 h = some r → CI dg 167 [.ref 61, .int v1, .int v2, .int v3] h (fun x g => x = r.1 ∧ g = r.2)) (hq : RtX X (some (.int r.1)) r.2) {h : Hp} {s0 : Int32} (e : R_167_237 c_166 c_167 s0 h = some r) : G X d 167 237 [none, none, none, none, none] [.int s0] h := by
  unfold R_167_237 at e
  rw [← Option.some.inj e] at hq
  exact k_167_237 hq
noncomputable def R_167_228 (c_166 : Int32 → Int32 → Int32 → Hp → Option (Int32 × Hp)) (c_167 : Int32 → Int32 → Int32 → Hp → Option (Int32 × Hp)) (v2 : Int32) (v4 : Int32) (h : Hp) : Option (Int32 × Hp) := bndI (c_167 12 v2 v4 h) (R_167_237 c_166 c_167)
theorem r_167_228 {X : GX} {d : Nat} {r : Int32 × Hp} {c_166 : Int32 → Int32 → Int32 → Hp → Option (Int32 × Hp)} {c_167 : Int32 → Int32 → Int32 → Hp → Option (Int32 × Hp)} {dg : Nat} (hd : 2 ≤ d) (hgd : dg < d) (hc_166 : ∀ {v1 : Int32} {v2 : Int32} {v3 : Int32} {h : Hp} {r : Int32 × Hp}, c_166 v1 v2 v3 h = some r → CI dg 166 [.ref 61, .int v1, .int v2, .int v3] h (fun x g => x = r.1 ∧ g = r.2)) (hc_167 : ∀ {v1 : Int32} {v2 : Int32} {v3 : Int32} {h : Hp} {r : Int32 × Hp}, c_167 v1 v2 v3 h = some r → CI dg 167 [.ref 61, .int v1, .int v2, .int v3] h (fun x g => x = r.1 ∧ g = r.2)) (hq : RtX X (some (.int r.1)) r.2) {h : Hp} {v2 : Int32} {v4 : Int32} (e : R_167_228 c_166 c_167 v2 v4 h = some r) : G X d 167 228 [some (.ref 61), none, some (.int v2), none, some (.int v4)] [] h := by
  unfold R_167_228 at e
  obtain ⟨x, h2, e1, e2⟩ := bndI_s e
  refine k_167_228 hgd (hc_167 e1) ?_
  rintro _ _ ⟨rfl, rfl⟩
  exact r_167_237 hd hgd hc_166 hc_167 hq e2
noncomputable def R_167_253 (c_166 : Int32 → Int32 → Int32 → Hp → Option (Int32 × Hp)) (c_167 : Int32 → Int32 → Int32 → Hp → Option (Int32 × Hp)) (s0 : Int32) (h : Hp) : Option (Int32 × Hp) := some (s0, h)
theorem r_167_253 {X : GX} {d : Nat} {r : Int32 × Hp} {c_166 : Int32 → Int32 → Int32 → Hp → Option (Int32 × Hp)} {c_167 : Int32 → Int32 → Int32 → Hp → Option (Int32 × Hp)} {dg : Nat} (hd : 2 ≤ d) (hgd : dg < d) (hc_166 : ∀ {v1 : Int32} {v2 : Int32} {v3 : Int32} {h : Hp} {r : Int32 × Hp}, c_166 v1 v2 v3 h = some r → CI dg 166 [.ref 61, .int v1, .int v2, .int v3] h (fun x g => x = r.1 ∧ g = r.2)) (hc_167 : ∀ {v1 : Int32} {v2 : Int32} {v3 : Int32} {h : Hp} {r : Int32 × Hp}, c_167 v1 v2 v3 h = some r → CI dg 167 [.ref 61, .int v1, .int v2, .int v3] h (fun x g => x = r.1 ∧ g = r.2)) (hq : RtX X (some (.int r.1)) r.2) {h : Hp} {s0 : Int32} (e : R_167_253 c_166 c_167 s0 h = some r) : G X d 167 253 [none, none, none, none, none] [.int s0] h := by
  unfold R_167_253 at e
  rw [← Option.some.inj e] at hq
  exact k_167_253 hq
noncomputable def R_167_241 (c_166 : Int32 → Int32 → Int32 → Hp → Option (Int32 × Hp)) (c_167 : Int32 → Int32 → Int32 → Hp → Option (Int32 × Hp)) (v2 : Int32) (v4 : Int32) (h : Hp) : Option (Int32 × Hp) := bndI (c_167 10 (v2 + 7) v4 h) (R_167_253 c_166 c_167)
theorem r_167_241 {X : GX} {d : Nat} {r : Int32 × Hp} {c_166 : Int32 → Int32 → Int32 → Hp → Option (Int32 × Hp)} {c_167 : Int32 → Int32 → Int32 → Hp → Option (Int32 × Hp)} {dg : Nat} (hd : 2 ≤ d) (hgd : dg < d) (hc_166 : ∀ {v1 : Int32} {v2 : Int32} {v3 : Int32} {h : Hp} {r : Int32 × Hp}, c_166 v1 v2 v3 h = some r → CI dg 166 [.ref 61, .int v1, .int v2, .int v3] h (fun x g => x = r.1 ∧ g = r.2)) (hc_167 : ∀ {v1 : Int32} {v2 : Int32} {v3 : Int32} {h : Hp} {r : Int32 × Hp}, c_167 v1 v2 v3 h = some r → CI dg 167 [.ref 61, .int v1, .int v2, .int v3] h (fun x g => x = r.1 ∧ g = r.2)) (hq : RtX X (some (.int r.1)) r.2) {h : Hp} {v2 : Int32} {v4 : Int32} (e : R_167_241 c_166 c_167 v2 v4 h = some r) : G X d 167 241 [some (.ref 61), none, some (.int v2), none, some (.int v4)] [] h := by
  unfold R_167_241 at e
  obtain ⟨x, h2, e1, e2⟩ := bndI_s e
  refine k_167_241 hgd (hc_167 e1) ?_
  rintro _ _ ⟨rfl, rfl⟩
  exact r_167_253 hd hgd hc_166 hc_167 hq e2
noncomputable def R_167_274 (c_166 : Int32 → Int32 → Int32 → Hp → Option (Int32 × Hp)) (c_167 : Int32 → Int32 → Int32 → Hp → Option (Int32 × Hp)) (s1 : Int32) (s0 : Int32) (h : Hp) : Option (Int32 × Hp) := some ((s1 - s0), h)
theorem r_167_274 {X : GX} {d : Nat} {r : Int32 × Hp} {c_166 : Int32 → Int32 → Int32 → Hp → Option (Int32 × Hp)} {c_167 : Int32 → Int32 → Int32 → Hp → Option (Int32 × Hp)} {dg : Nat} (hd : 2 ≤ d) (hgd : dg < d) (hc_166 : ∀ {v1 : Int32} {v2 : Int32} {v3 : Int32} {h : Hp} {r : Int32 × Hp}, c_166 v1 v2 v3 h = some r → CI dg 166 [.ref 61, .int v1, .int v2, .int v3] h (fun x g => x = r.1 ∧ g = r.2)) (hc_167 : ∀ {v1 : Int32} {v2 : Int32} {v3 : Int32} {h : Hp} {r : Int32 × Hp}, c_167 v1 v2 v3 h = some r → CI dg 167 [.ref 61, .int v1, .int v2, .int v3] h (fun x g => x = r.1 ∧ g = r.2)) (hq : RtX X (some (.int r.1)) r.2) {h : Hp} {s1 : Int32} {s0 : Int32} (e : R_167_274 c_166 c_167 s1 s0 h = some r) : G X d 167 274 [none, none, none, none, none] [.int s0, .int s1] h := by
  unfold R_167_274 at e
  rw [← Option.some.inj e] at hq
  exact k_167_274 hq
noncomputable def R_167_263 (c_166 : Int32 → Int32 → Int32 → Hp → Option (Int32 × Hp)) (c_167 : Int32 → Int32 → Int32 → Hp → Option (Int32 × Hp)) (v4 : Int32) (s0 : Int32) (h : Hp) : Option (Int32 × Hp) := bndI (c_166 1 (h 61 5) v4 h) (R_167_274 c_166 c_167 s0)
theorem r_167_263 {X : GX} {d : Nat} {r : Int32 × Hp} {c_166 : Int32 → Int32 → Int32 → Hp → Option (Int32 × Hp)} {c_167 : Int32 → Int32 → Int32 → Hp → Option (Int32 × Hp)} {dg : Nat} (hd : 2 ≤ d) (hgd : dg < d) (hc_166 : ∀ {v1 : Int32} {v2 : Int32} {v3 : Int32} {h : Hp} {r : Int32 × Hp}, c_166 v1 v2 v3 h = some r → CI dg 166 [.ref 61, .int v1, .int v2, .int v3] h (fun x g => x = r.1 ∧ g = r.2)) (hc_167 : ∀ {v1 : Int32} {v2 : Int32} {v3 : Int32} {h : Hp} {r : Int32 × Hp}, c_167 v1 v2 v3 h = some r → CI dg 167 [.ref 61, .int v1, .int v2, .int v3] h (fun x g => x = r.1 ∧ g = r.2)) (hq : RtX X (some (.int r.1)) r.2) {h : Hp} {v4 : Int32} {s0 : Int32} (e : R_167_263 c_166 c_167 v4 s0 h = some r) : G X d 167 263 [some (.ref 61), none, none, none, some (.int v4)] [.int s0] h := by
  unfold R_167_263 at e
  obtain ⟨x, h2, e1, e2⟩ := bndI_s e
  refine k_167_263 hgd (hc_166 e1) ?_
  rintro _ _ ⟨rfl, rfl⟩
  exact r_167_274 hd hgd hc_166 hc_167 hq e2
noncomputable def R_167_254 (c_166 : Int32 → Int32 → Int32 → Hp → Option (Int32 × Hp)) (c_167 : Int32 → Int32 → Int32 → Hp → Option (Int32 × Hp)) (v2 : Int32) (v4 : Int32) (h : Hp) : Option (Int32 × Hp) := bndI (c_167 13 v2 v4 h) (R_167_263 c_166 c_167 v4)
theorem r_167_254 {X : GX} {d : Nat} {r : Int32 × Hp} {c_166 : Int32 → Int32 → Int32 → Hp → Option (Int32 × Hp)} {c_167 : Int32 → Int32 → Int32 → Hp → Option (Int32 × Hp)} {dg : Nat} (hd : 2 ≤ d) (hgd : dg < d) (hc_166 : ∀ {v1 : Int32} {v2 : Int32} {v3 : Int32} {h : Hp} {r : Int32 × Hp}, c_166 v1 v2 v3 h = some r → CI dg 166 [.ref 61, .int v1, .int v2, .int v3] h (fun x g => x = r.1 ∧ g = r.2)) (hc_167 : ∀ {v1 : Int32} {v2 : Int32} {v3 : Int32} {h : Hp} {r : Int32 × Hp}, c_167 v1 v2 v3 h = some r → CI dg 167 [.ref 61, .int v1, .int v2, .int v3] h (fun x g => x = r.1 ∧ g = r.2)) (hq : RtX X (some (.int r.1)) r.2) {h : Hp} {v2 : Int32} {v4 : Int32} (e : R_167_254 c_166 c_167 v2 v4 h = some r) : G X d 167 254 [some (.ref 61), none, some (.int v2), none, some (.int v4)] [] h := by
  unfold R_167_254 at e
  obtain ⟨x, h2, e1, e2⟩ := bndI_s e
  refine k_167_254 hgd (hc_167 e1) ?_
  rintro _ _ ⟨rfl, rfl⟩
  exact r_167_263 hd hgd hc_166 hc_167 hq e2
noncomputable def R_167_286 (c_166 : Int32 → Int32 → Int32 → Hp → Option (Int32 × Hp)) (c_167 : Int32 → Int32 → Int32 → Hp → Option (Int32 × Hp)) (s1 : Int32) (s0 : Int32) (h : Hp) : Option (Int32 × Hp) := some ((s1 - s0), h)
theorem r_167_286 {X : GX} {d : Nat} {r : Int32 × Hp} {c_166 : Int32 → Int32 → Int32 → Hp → Option (Int32 × Hp)} {c_167 : Int32 → Int32 → Int32 → Hp → Option (Int32 × Hp)} {dg : Nat} (hd : 2 ≤ d) (hgd : dg < d) (hc_166 : ∀ {v1 : Int32} {v2 : Int32} {v3 : Int32} {h : Hp} {r : Int32 × Hp}, c_166 v1 v2 v3 h = some r → CI dg 166 [.ref 61, .int v1, .int v2, .int v3] h (fun x g => x = r.1 ∧ g = r.2)) (hc_167 : ∀ {v1 : Int32} {v2 : Int32} {v3 : Int32} {h : Hp} {r : Int32 × Hp}, c_167 v1 v2 v3 h = some r → CI dg 167 [.ref 61, .int v1, .int v2, .int v3] h (fun x g => x = r.1 ∧ g = r.2)) (hq : RtX X (some (.int r.1)) r.2) {h : Hp} {s1 : Int32} {s0 : Int32} (e : R_167_286 c_166 c_167 s1 s0 h = some r) : G X d 167 286 [none, none, none, none, none] [.int s0, .int s1] h := by
  unfold R_167_286 at e
  rw [← Option.some.inj e] at hq
  exact k_167_286 hq
noncomputable def R_167_276 (c_166 : Int32 → Int32 → Int32 → Hp → Option (Int32 × Hp)) (c_167 : Int32 → Int32 → Int32 → Hp → Option (Int32 × Hp)) (v2 : Int32) (v4 : Int32) (h : Hp) : Option (Int32 × Hp) := bndI (c_167 11 v2 v4 h) (R_167_286 c_166 c_167 0)
theorem r_167_276 {X : GX} {d : Nat} {r : Int32 × Hp} {c_166 : Int32 → Int32 → Int32 → Hp → Option (Int32 × Hp)} {c_167 : Int32 → Int32 → Int32 → Hp → Option (Int32 × Hp)} {dg : Nat} (hd : 2 ≤ d) (hgd : dg < d) (hc_166 : ∀ {v1 : Int32} {v2 : Int32} {v3 : Int32} {h : Hp} {r : Int32 × Hp}, c_166 v1 v2 v3 h = some r → CI dg 166 [.ref 61, .int v1, .int v2, .int v3] h (fun x g => x = r.1 ∧ g = r.2)) (hc_167 : ∀ {v1 : Int32} {v2 : Int32} {v3 : Int32} {h : Hp} {r : Int32 × Hp}, c_167 v1 v2 v3 h = some r → CI dg 167 [.ref 61, .int v1, .int v2, .int v3] h (fun x g => x = r.1 ∧ g = r.2)) (hq : RtX X (some (.int r.1)) r.2) {h : Hp} {v2 : Int32} {v4 : Int32} (e : R_167_276 c_166 c_167 v2 v4 h = some r) : G X d 167 276 [some (.ref 61), none, some (.int v2), none, some (.int v4)] [] h := by
  unfold R_167_276 at e
  obtain ⟨x, h2, e1, e2⟩ := bndI_s e
  refine k_167_276 hgd (hc_167 e1) ?_
  rintro _ _ ⟨rfl, rfl⟩
  exact r_167_286 hd hgd hc_166 hc_167 hq e2
noncomputable def R_167_308 (c_166 : Int32 → Int32 → Int32 → Hp → Option (Int32 × Hp)) (c_167 : Int32 → Int32 → Int32 → Hp → Option (Int32 × Hp)) (s1 : Int32) (s0 : Int32) (h : Hp) : Option (Int32 × Hp) := some ((s1 ^^^ s0), h)
theorem r_167_308 {X : GX} {d : Nat} {r : Int32 × Hp} {c_166 : Int32 → Int32 → Int32 → Hp → Option (Int32 × Hp)} {c_167 : Int32 → Int32 → Int32 → Hp → Option (Int32 × Hp)} {dg : Nat} (hd : 2 ≤ d) (hgd : dg < d) (hc_166 : ∀ {v1 : Int32} {v2 : Int32} {v3 : Int32} {h : Hp} {r : Int32 × Hp}, c_166 v1 v2 v3 h = some r → CI dg 166 [.ref 61, .int v1, .int v2, .int v3] h (fun x g => x = r.1 ∧ g = r.2)) (hc_167 : ∀ {v1 : Int32} {v2 : Int32} {v3 : Int32} {h : Hp} {r : Int32 × Hp}, c_167 v1 v2 v3 h = some r → CI dg 167 [.ref 61, .int v1, .int v2, .int v3] h (fun x g => x = r.1 ∧ g = r.2)) (hq : RtX X (some (.int r.1)) r.2) {h : Hp} {s1 : Int32} {s0 : Int32} (e : R_167_308 c_166 c_167 s1 s0 h = some r) : G X d 167 308 [none, none, none, none, none] [.int s0, .int s1] h := by
  unfold R_167_308 at e
  rw [← Option.some.inj e] at hq
  exact k_167_308 hq
noncomputable def R_167_297 (c_166 : Int32 → Int32 → Int32 → Hp → Option (Int32 × Hp)) (c_167 : Int32 → Int32 → Int32 → Hp → Option (Int32 × Hp)) (v4 : Int32) (s0 : Int32) (h : Hp) : Option (Int32 × Hp) := bndI (c_166 0 (h 61 4) v4 h) (R_167_308 c_166 c_167 s0)
theorem r_167_297 {X : GX} {d : Nat} {r : Int32 × Hp} {c_166 : Int32 → Int32 → Int32 → Hp → Option (Int32 × Hp)} {c_167 : Int32 → Int32 → Int32 → Hp → Option (Int32 × Hp)} {dg : Nat} (hd : 2 ≤ d) (hgd : dg < d) (hc_166 : ∀ {v1 : Int32} {v2 : Int32} {v3 : Int32} {h : Hp} {r : Int32 × Hp}, c_166 v1 v2 v3 h = some r → CI dg 166 [.ref 61, .int v1, .int v2, .int v3] h (fun x g => x = r.1 ∧ g = r.2)) (hc_167 : ∀ {v1 : Int32} {v2 : Int32} {v3 : Int32} {h : Hp} {r : Int32 × Hp}, c_167 v1 v2 v3 h = some r → CI dg 167 [.ref 61, .int v1, .int v2, .int v3] h (fun x g => x = r.1 ∧ g = r.2)) (hq : RtX X (some (.int r.1)) r.2) {h : Hp} {v4 : Int32} {s0 : Int32} (e : R_167_297 c_166 c_167 v4 s0 h = some r) : G X d 167 297 [some (.ref 61), none, none, none, some (.int v4)] [.int s0] h := by
  unfold R_167_297 at e
  obtain ⟨x, h2, e1, e2⟩ := bndI_s e
  refine k_167_297 hgd (hc_166 e1) ?_
  rintro _ _ ⟨rfl, rfl⟩
  exact r_167_308 hd hgd hc_166 hc_167 hq e2
noncomputable def R_167_288 (c_166 : Int32 → Int32 → Int32 → Hp → Option (Int32 × Hp)) (c_167 : Int32 → Int32 → Int32 → Hp → Option (Int32 × Hp)) (v2 : Int32) (v4 : Int32) (h : Hp) : Option (Int32 × Hp) := bndI (c_167 40 v2 v4 h) (R_167_297 c_166 c_167 v4)
theorem r_167_288 {X : GX} {d : Nat} {r : Int32 × Hp} {c_166 : Int32 → Int32 → Int32 → Hp → Option (Int32 × Hp)} {c_167 : Int32 → Int32 → Int32 → Hp → Option (Int32 × Hp)} {dg : Nat} (hd : 2 ≤ d) (hgd : dg < d) (hc_166 : ∀ {v1 : Int32} {v2 : Int32} {v3 : Int32} {h : Hp} {r : Int32 × Hp}, c_166 v1 v2 v3 h = some r → CI dg 166 [.ref 61, .int v1, .int v2, .int v3] h (fun x g => x = r.1 ∧ g = r.2)) (hc_167 : ∀ {v1 : Int32} {v2 : Int32} {v3 : Int32} {h : Hp} {r : Int32 × Hp}, c_167 v1 v2 v3 h = some r → CI dg 167 [.ref 61, .int v1, .int v2, .int v3] h (fun x g => x = r.1 ∧ g = r.2)) (hq : RtX X (some (.int r.1)) r.2) {h : Hp} {v2 : Int32} {v4 : Int32} (e : R_167_288 c_166 c_167 v2 v4 h = some r) : G X d 167 288 [some (.ref 61), none, some (.int v2), none, some (.int v4)] [] h := by
  unfold R_167_288 at e
  obtain ⟨x, h2, e1, e2⟩ := bndI_s e
  refine k_167_288 hgd (hc_167 e1) ?_
  rintro _ _ ⟨rfl, rfl⟩
  exact r_167_297 hd hgd hc_166 hc_167 hq e2
noncomputable def R_167_310 (c_166 : Int32 → Int32 → Int32 → Hp → Option (Int32 × Hp)) (c_167 : Int32 → Int32 → Int32 → Hp → Option (Int32 × Hp)) (h : Hp) : Option (Int32 × Hp) := some (0, h)
theorem r_167_310 {X : GX} {d : Nat} {r : Int32 × Hp} {c_166 : Int32 → Int32 → Int32 → Hp → Option (Int32 × Hp)} {c_167 : Int32 → Int32 → Int32 → Hp → Option (Int32 × Hp)} {dg : Nat} (hd : 2 ≤ d) (hgd : dg < d) (hc_166 : ∀ {v1 : Int32} {v2 : Int32} {v3 : Int32} {h : Hp} {r : Int32 × Hp}, c_166 v1 v2 v3 h = some r → CI dg 166 [.ref 61, .int v1, .int v2, .int v3] h (fun x g => x = r.1 ∧ g = r.2)) (hc_167 : ∀ {v1 : Int32} {v2 : Int32} {v3 : Int32} {h : Hp} {r : Int32 × Hp}, c_167 v1 v2 v3 h = some r → CI dg 167 [.ref 61, .int v1, .int v2, .int v3] h (fun x g => x = r.1 ∧ g = r.2)) (hq : RtX X (some (.int r.1)) r.2) {h : Hp} (e : R_167_310 c_166 c_167 h = some r) : G X d 167 310 [none, none, none, none, none] [] h := by
  unfold R_167_310 at e
  rw [← Option.some.inj e] at hq
  exact k_167_310 hq
noncomputable def R_167_41 (c_166 : Int32 → Int32 → Int32 → Hp → Option (Int32 × Hp)) (c_167 : Int32 → Int32 → Int32 → Hp → Option (Int32 × Hp)) (v1 : Int32) (v2 : Int32) (v3 : Int32) (h : Hp) : Option (Int32 × Hp) := if v1 = 10 then R_167_144 c_166 c_167 v2 h else (if v1 = 11 then R_167_154 c_166 c_167 v2 (v3 + 1) h else (if v1 = 12 then R_167_168 c_166 c_167 v2 h else (if v1 = 13 then R_167_185 c_166 c_167 v2 (v3 + 1) h else (if v1 = 20 then R_167_203 c_166 c_167 v2 (v3 + 1) h else (if v1 = 30 then R_167_216 c_166 c_167 v2 (v3 + 1) h else (if v1 = 40 then R_167_228 c_166 c_167 v2 (v3 + 1) h else (if v1 = 50 then R_167_241 c_166 c_167 v2 (v3 + 1) h else (if v1 = 51 then R_167_254 c_166 c_167 v2 (v3 + 1) h else (if v1 = 60 then R_167_276 c_166 c_167 v2 (v3 + 1) h else (if v1 = 61 then R_167_288 c_166 c_167 v2 (v3 + 1) h else (R_167_310 c_166 c_167 h)))))))))))
set_option maxRecDepth 100000 in
theorem r_167_41 {X : GX} {d : Nat} {r : Int32 × Hp} {c_166 : Int32 → Int32 → Int32 → Hp → Option (Int32 × Hp)} {c_167 : Int32 → Int32 → Int32 → Hp → Option (Int32 × Hp)} {dg : Nat} (hd : 2 ≤ d) (hgd : dg < d) (hc_166 : ∀ {v1 : Int32} {v2 : Int32} {v3 : Int32} {h : Hp} {r : Int32 × Hp}, c_166 v1 v2 v3 h = some r → CI dg 166 [.ref 61, .int v1, .int v2, .int v3] h (fun x g => x = r.1 ∧ g = r.2)) (hc_167 : ∀ {v1 : Int32} {v2 : Int32} {v3 : Int32} {h : Hp} {r : Int32 × Hp}, c_167 v1 v2 v3 h = some r → CI dg 167 [.ref 61, .int v1, .int v2, .int v3] h (fun x g => x = r.1 ∧ g = r.2)) (hq : RtX X (some (.int r.1)) r.2) {h : Hp} {v1 : Int32} {v2 : Int32} {v3 : Int32} (e : R_167_41 c_166 c_167 v1 v2 v3 h = some r) : G X d 167 41 [some (.ref 61), some (.int v1), some (.int v2), some (.int v3), none] [] h := by
  unfold R_167_41 at e
  refine k_167_41 (fun c => ?_) (fun c => ?_) (fun c => ?_) (fun c => ?_) (fun c => ?_) (fun c => ?_) (fun c => ?_) (fun c => ?_) (fun c => ?_) (fun c => ?_) (fun c => ?_) (fun c0 c1 c2 c3 c4 c5 c6 c7 c8 c9 c10 => ?_)
  · rw [if_pos c] at e; exact r_167_144 hd hgd hc_166 hc_167 hq e
  · rw [if_neg (show ¬ v1 = 10 by rw [c]; decide), if_pos c] at e; exact r_167_154 hd hgd hc_166 hc_167 hq e
  · rw [if_neg (show ¬ v1 = 10 by rw [c]; decide), if_neg (show ¬ v1 = 11 by rw [c]; decide), if_pos c] at e; exact r_167_168 hd hgd hc_166 hc_167 hq e
  · rw [if_neg (show ¬ v1 = 10 by rw [c]; decide), if_neg (show ¬ v1 = 11 by rw [c]; decide), if_neg (show ¬ v1 = 12 by rw [c]; decide), if_pos c] at e; exact r_167_185 hd hgd hc_166 hc_167 hq e
  · rw [if_neg (show ¬ v1 = 10 by rw [c]; decide), if_neg (show ¬ v1 = 11 by rw [c]; decide), if_neg (show ¬ v1 = 12 by rw [c]; decide), if_neg (show ¬ v1 = 13 by rw [c]; decide), if_pos c] at e; exact r_167_203 hd hgd hc_166 hc_167 hq e
  · rw [if_neg (show ¬ v1 = 10 by rw [c]; decide), if_neg (show ¬ v1 = 11 by rw [c]; decide), if_neg (show ¬ v1 = 12 by rw [c]; decide), if_neg (show ¬ v1 = 13 by rw [c]; decide), if_neg (show ¬ v1 = 20 by rw [c]; decide), if_pos c] at e; exact r_167_216 hd hgd hc_166 hc_167 hq e
  · rw [if_neg (show ¬ v1 = 10 by rw [c]; decide), if_neg (show ¬ v1 = 11 by rw [c]; decide), if_neg (show ¬ v1 = 12 by rw [c]; decide), if_neg (show ¬ v1 = 13 by rw [c]; decide), if_neg (show ¬ v1 = 20 by rw [c]; decide), if_neg (show ¬ v1 = 30 by rw [c]; decide), if_pos c] at e; exact r_167_228 hd hgd hc_166 hc_167 hq e
  · rw [if_neg (show ¬ v1 = 10 by rw [c]; decide), if_neg (show ¬ v1 = 11 by rw [c]; decide), if_neg (show ¬ v1 = 12 by rw [c]; decide), if_neg (show ¬ v1 = 13 by rw [c]; decide), if_neg (show ¬ v1 = 20 by rw [c]; decide), if_neg (show ¬ v1 = 30 by rw [c]; decide), if_neg (show ¬ v1 = 40 by rw [c]; decide), if_pos c] at e; exact r_167_241 hd hgd hc_166 hc_167 hq e
  · rw [if_neg (show ¬ v1 = 10 by rw [c]; decide), if_neg (show ¬ v1 = 11 by rw [c]; decide), if_neg (show ¬ v1 = 12 by rw [c]; decide), if_neg (show ¬ v1 = 13 by rw [c]; decide), if_neg (show ¬ v1 = 20 by rw [c]; decide), if_neg (show ¬ v1 = 30 by rw [c]; decide), if_neg (show ¬ v1 = 40 by rw [c]; decide), if_neg (show ¬ v1 = 50 by rw [c]; decide), if_pos c] at e; exact r_167_254 hd hgd hc_166 hc_167 hq e
  · rw [if_neg (show ¬ v1 = 10 by rw [c]; decide), if_neg (show ¬ v1 = 11 by rw [c]; decide), if_neg (show ¬ v1 = 12 by rw [c]; decide), if_neg (show ¬ v1 = 13 by rw [c]; decide), if_neg (show ¬ v1 = 20 by rw [c]; decide), if_neg (show ¬ v1 = 30 by rw [c]; decide), if_neg (show ¬ v1 = 40 by rw [c]; decide), if_neg (show ¬ v1 = 50 by rw [c]; decide), if_neg (show ¬ v1 = 51 by rw [c]; decide), if_pos c] at e; exact r_167_276 hd hgd hc_166 hc_167 hq e
  · rw [if_neg (show ¬ v1 = 10 by rw [c]; decide), if_neg (show ¬ v1 = 11 by rw [c]; decide), if_neg (show ¬ v1 = 12 by rw [c]; decide), if_neg (show ¬ v1 = 13 by rw [c]; decide), if_neg (show ¬ v1 = 20 by rw [c]; decide), if_neg (show ¬ v1 = 30 by rw [c]; decide), if_neg (show ¬ v1 = 40 by rw [c]; decide), if_neg (show ¬ v1 = 50 by rw [c]; decide), if_neg (show ¬ v1 = 51 by rw [c]; decide), if_neg (show ¬ v1 = 60 by rw [c]; decide), if_pos c] at e; exact r_167_288 hd hgd hc_166 hc_167 hq e
  · rw [if_neg c0, if_neg c1, if_neg c2, if_neg c3, if_neg c4, if_neg c5, if_neg c6, if_neg c7, if_neg c8, if_neg c9, if_neg c10] at e; exact r_167_310 hd hgd hc_166 hc_167 hq e
noncomputable def R_167_24 (c_166 : Int32 → Int32 → Int32 → Hp → Option (Int32 × Hp)) (c_167 : Int32 → Int32 → Int32 → Hp → Option (Int32 × Hp)) (v1 : Int32) (v2 : Int32) (v3 : Int32) (h : Hp) : Option (Int32 × Hp) := gd (IA 62 (h 61 1)) (if v1 = 10 then R_167_144 c_166 c_167 v2 ((wr (wr h 61 1 ((h 61 1) + 1)) 62 (Int32.toNatClampNeg (h 61 1)) v1)) else (if v1 = 11 then R_167_154 c_166 c_167 v2 (v3 + 1) ((wr (wr h 61 1 ((h 61 1) + 1)) 62 (Int32.toNatClampNeg (h 61 1)) v1)) else (if v1 = 12 then R_167_168 c_166 c_167 v2 ((wr (wr h 61 1 ((h 61 1) + 1)) 62 (Int32.toNatClampNeg (h 61 1)) v1)) else (if v1 = 13 then R_167_185 c_166 c_167 v2 (v3 + 1) ((wr (wr h 61 1 ((h 61 1) + 1)) 62 (Int32.toNatClampNeg (h 61 1)) v1)) else (if v1 = 20 then R_167_203 c_166 c_167 v2 (v3 + 1) ((wr (wr h 61 1 ((h 61 1) + 1)) 62 (Int32.toNatClampNeg (h 61 1)) v1)) else (if v1 = 30 then R_167_216 c_166 c_167 v2 (v3 + 1) ((wr (wr h 61 1 ((h 61 1) + 1)) 62 (Int32.toNatClampNeg (h 61 1)) v1)) else (if v1 = 40 then R_167_228 c_166 c_167 v2 (v3 + 1) ((wr (wr h 61 1 ((h 61 1) + 1)) 62 (Int32.toNatClampNeg (h 61 1)) v1)) else (if v1 = 50 then R_167_241 c_166 c_167 v2 (v3 + 1) ((wr (wr h 61 1 ((h 61 1) + 1)) 62 (Int32.toNatClampNeg (h 61 1)) v1)) else (if v1 = 51 then R_167_254 c_166 c_167 v2 (v3 + 1) ((wr (wr h 61 1 ((h 61 1) + 1)) 62 (Int32.toNatClampNeg (h 61 1)) v1)) else (if v1 = 60 then R_167_276 c_166 c_167 v2 (v3 + 1) ((wr (wr h 61 1 ((h 61 1) + 1)) 62 (Int32.toNatClampNeg (h 61 1)) v1)) else (if v1 = 61 then R_167_288 c_166 c_167 v2 (v3 + 1) ((wr (wr h 61 1 ((h 61 1) + 1)) 62 (Int32.toNatClampNeg (h 61 1)) v1)) else (R_167_310 c_166 c_167 ((wr (wr h 61 1 ((h 61 1) + 1)) 62 (Int32.toNatClampNeg (h 61 1)) v1))))))))))))))
set_option maxRecDepth 100000 in
theorem r_167_24 {X : GX} {d : Nat} {r : Int32 × Hp} {c_166 : Int32 → Int32 → Int32 → Hp → Option (Int32 × Hp)} {c_167 : Int32 → Int32 → Int32 → Hp → Option (Int32 × Hp)} {dg : Nat} (hd : 2 ≤ d) (hgd : dg < d) (hc_166 : ∀ {v1 : Int32} {v2 : Int32} {v3 : Int32} {h : Hp} {r : Int32 × Hp}, c_166 v1 v2 v3 h = some r → CI dg 166 [.ref 61, .int v1, .int v2, .int v3] h (fun x g => x = r.1 ∧ g = r.2)) (hc_167 : ∀ {v1 : Int32} {v2 : Int32} {v3 : Int32} {h : Hp} {r : Int32 × Hp}, c_167 v1 v2 v3 h = some r → CI dg 167 [.ref 61, .int v1, .int v2, .int v3] h (fun x g => x = r.1 ∧ g = r.2)) (hq : RtX X (some (.int r.1)) r.2) {h : Hp} {v1 : Int32} {v2 : Int32} {v3 : Int32} (e : R_167_24 c_166 c_167 v1 v2 v3 h = some r) : G X d 167 24 [some (.ref 61), some (.int v1), some (.int v2), some (.int v3), none] [] h := by
  unfold R_167_24 at e
  have g := gd_s e; clear e; obtain ⟨b0, e⟩ := g
  refine k_167_24 b0 (fun c => ?_) (fun c => ?_) (fun c => ?_) (fun c => ?_) (fun c => ?_) (fun c => ?_) (fun c => ?_) (fun c => ?_) (fun c => ?_) (fun c => ?_) (fun c => ?_) (fun c0 c1 c2 c3 c4 c5 c6 c7 c8 c9 c10 => ?_)
  · rw [if_pos c] at e; exact r_167_144 hd hgd hc_166 hc_167 hq e
  · rw [if_neg (show ¬ v1 = 10 by rw [c]; decide), if_pos c] at e; exact r_167_154 hd hgd hc_166 hc_167 hq e
  · rw [if_neg (show ¬ v1 = 10 by rw [c]; decide), if_neg (show ¬ v1 = 11 by rw [c]; decide), if_pos c] at e; exact r_167_168 hd hgd hc_166 hc_167 hq e
  · rw [if_neg (show ¬ v1 = 10 by rw [c]; decide), if_neg (show ¬ v1 = 11 by rw [c]; decide), if_neg (show ¬ v1 = 12 by rw [c]; decide), if_pos c] at e; exact r_167_185 hd hgd hc_166 hc_167 hq e
  · rw [if_neg (show ¬ v1 = 10 by rw [c]; decide), if_neg (show ¬ v1 = 11 by rw [c]; decide), if_neg (show ¬ v1 = 12 by rw [c]; decide), if_neg (show ¬ v1 = 13 by rw [c]; decide), if_pos c] at e; exact r_167_203 hd hgd hc_166 hc_167 hq e
  · rw [if_neg (show ¬ v1 = 10 by rw [c]; decide), if_neg (show ¬ v1 = 11 by rw [c]; decide), if_neg (show ¬ v1 = 12 by rw [c]; decide), if_neg (show ¬ v1 = 13 by rw [c]; decide), if_neg (show ¬ v1 = 20 by rw [c]; decide), if_pos c] at e; exact r_167_216 hd hgd hc_166 hc_167 hq e
  · rw [if_neg (show ¬ v1 = 10 by rw [c]; decide), if_neg (show ¬ v1 = 11 by rw [c]; decide), if_neg (show ¬ v1 = 12 by rw [c]; decide), if_neg (show ¬ v1 = 13 by rw [c]; decide), if_neg (show ¬ v1 = 20 by rw [c]; decide), if_neg (show ¬ v1 = 30 by rw [c]; decide), if_pos c] at e; exact r_167_228 hd hgd hc_166 hc_167 hq e
  · rw [if_neg (show ¬ v1 = 10 by rw [c]; decide), if_neg (show ¬ v1 = 11 by rw [c]; decide), if_neg (show ¬ v1 = 12 by rw [c]; decide), if_neg (show ¬ v1 = 13 by rw [c]; decide), if_neg (show ¬ v1 = 20 by rw [c]; decide), if_neg (show ¬ v1 = 30 by rw [c]; decide), if_neg (show ¬ v1 = 40 by rw [c]; decide), if_pos c] at e; exact r_167_241 hd hgd hc_166 hc_167 hq e
  · rw [if_neg (show ¬ v1 = 10 by rw [c]; decide), if_neg (show ¬ v1 = 11 by rw [c]; decide), if_neg (show ¬ v1 = 12 by rw [c]; decide), if_neg (show ¬ v1 = 13 by rw [c]; decide), if_neg (show ¬ v1 = 20 by rw [c]; decide), if_neg (show ¬ v1 = 30 by rw [c]; decide), if_neg (show ¬ v1 = 40 by rw [c]; decide), if_neg (show ¬ v1 = 50 by rw [c]; decide), if_pos c] at e; exact r_167_254 hd hgd hc_166 hc_167 hq e
  · rw [if_neg (show ¬ v1 = 10 by rw [c]; decide), if_neg (show ¬ v1 = 11 by rw [c]; decide), if_neg (show ¬ v1 = 12 by rw [c]; decide), if_neg (show ¬ v1 = 13 by rw [c]; decide), if_neg (show ¬ v1 = 20 by rw [c]; decide), if_neg (show ¬ v1 = 30 by rw [c]; decide), if_neg (show ¬ v1 = 40 by rw [c]; decide), if_neg (show ¬ v1 = 50 by rw [c]; decide), if_neg (show ¬ v1 = 51 by rw [c]; decide), if_pos c] at e; exact r_167_276 hd hgd hc_166 hc_167 hq e
  · rw [if_neg (show ¬ v1 = 10 by rw [c]; decide), if_neg (show ¬ v1 = 11 by rw [c]; decide), if_neg (show ¬ v1 = 12 by rw [c]; decide), if_neg (show ¬ v1 = 13 by rw [c]; decide), if_neg (show ¬ v1 = 20 by rw [c]; decide), if_neg (show ¬ v1 = 30 by rw [c]; decide), if_neg (show ¬ v1 = 40 by rw [c]; decide), if_neg (show ¬ v1 = 50 by rw [c]; decide), if_neg (show ¬ v1 = 51 by rw [c]; decide), if_neg (show ¬ v1 = 60 by rw [c]; decide), if_pos c] at e; exact r_167_288 hd hgd hc_166 hc_167 hq e
  · rw [if_neg c0, if_neg c1, if_neg c2, if_neg c3, if_neg c4, if_neg c5, if_neg c6, if_neg c7, if_neg c8, if_neg c9, if_neg c10] at e; exact r_167_310 hd hgd hc_166 hc_167 hq e
noncomputable def R_167_15 (c_166 : Int32 → Int32 → Int32 → Hp → Option (Int32 × Hp)) (c_167 : Int32 → Int32 → Int32 → Hp → Option (Int32 × Hp)) (v1 : Int32) (v2 : Int32) (v3 : Int32) (h : Hp) : Option (Int32 × Hp) := if 30 ≤ (h 61 1) then R_167_41 c_166 c_167 v1 v2 v3 h else R_167_24 c_166 c_167 v1 v2 v3 h
theorem r_167_15 {X : GX} {d : Nat} {r : Int32 × Hp} {c_166 : Int32 → Int32 → Int32 → Hp → Option (Int32 × Hp)} {c_167 : Int32 → Int32 → Int32 → Hp → Option (Int32 × Hp)} {dg : Nat} (hd : 2 ≤ d) (hgd : dg < d) (hc_166 : ∀ {v1 : Int32} {v2 : Int32} {v3 : Int32} {h : Hp} {r : Int32 × Hp}, c_166 v1 v2 v3 h = some r → CI dg 166 [.ref 61, .int v1, .int v2, .int v3] h (fun x g => x = r.1 ∧ g = r.2)) (hc_167 : ∀ {v1 : Int32} {v2 : Int32} {v3 : Int32} {h : Hp} {r : Int32 × Hp}, c_167 v1 v2 v3 h = some r → CI dg 167 [.ref 61, .int v1, .int v2, .int v3] h (fun x g => x = r.1 ∧ g = r.2)) (hq : RtX X (some (.int r.1)) r.2) {h : Hp} {v1 : Int32} {v2 : Int32} {v3 : Int32} (e : R_167_15 c_166 c_167 v1 v2 v3 h = some r) : G X d 167 15 [some (.ref 61), some (.int v1), some (.int v2), some (.int v3), none] [] h := by
  unfold R_167_15 at e
  refine k_167_15 (fun c => ?_) (fun c => ?_)
  · rw [if_pos c] at e; exact r_167_41 hd hgd hc_166 hc_167 hq e
  · rw [if_neg c] at e; exact r_167_24 hd hgd hc_166 hc_167 hq e
noncomputable def R_167_7 (c_166 : Int32 → Int32 → Int32 → Hp → Option (Int32 × Hp)) (c_167 : Int32 → Int32 → Int32 → Hp → Option (Int32 × Hp)) (v1 : Int32) (v2 : Int32) (v3 : Int32) (h : Hp) : Option (Int32 × Hp) := if v3 ≤ 20 then R_167_15 c_166 c_167 v1 v2 v3 h else R_167_13 c_166 c_167 h
theorem r_167_7 {X : GX} {d : Nat} {r : Int32 × Hp} {c_166 : Int32 → Int32 → Int32 → Hp → Option (Int32 × Hp)} {c_167 : Int32 → Int32 → Int32 → Hp → Option (Int32 × Hp)} {dg : Nat} (hd : 2 ≤ d) (hgd : dg < d) (hc_166 : ∀ {v1 : Int32} {v2 : Int32} {v3 : Int32} {h : Hp} {r : Int32 × Hp}, c_166 v1 v2 v3 h = some r → CI dg 166 [.ref 61, .int v1, .int v2, .int v3] h (fun x g => x = r.1 ∧ g = r.2)) (hc_167 : ∀ {v1 : Int32} {v2 : Int32} {v3 : Int32} {h : Hp} {r : Int32 × Hp}, c_167 v1 v2 v3 h = some r → CI dg 167 [.ref 61, .int v1, .int v2, .int v3] h (fun x g => x = r.1 ∧ g = r.2)) (hq : RtX X (some (.int r.1)) r.2) {h : Hp} {v1 : Int32} {v2 : Int32} {v3 : Int32} (e : R_167_7 c_166 c_167 v1 v2 v3 h = some r) : G X d 167 7 [some (.ref 61), some (.int v1), some (.int v2), some (.int v3), none] [] h := by
  unfold R_167_7 at e
  refine k_167_7 (fun c => ?_) (fun c => ?_)
  · rw [if_pos c] at e; exact r_167_15 hd hgd hc_166 hc_167 hq e
  · rw [if_neg c] at e; exact r_167_13 hd hgd hc_166 hc_167 hq e
noncomputable def R_167_0 (c_166 : Int32 → Int32 → Int32 → Hp → Option (Int32 × Hp)) (c_167 : Int32 → Int32 → Int32 → Hp → Option (Int32 × Hp)) (v1 : Int32) (v2 : Int32) (v3 : Int32) (h : Hp) : Option (Int32 × Hp) := if (h 61 2) = 0 then R_167_7 c_166 c_167 v1 v2 v3 h else R_167_13 c_166 c_167 h
theorem r_167_0 {X : GX} {d : Nat} {r : Int32 × Hp} {c_166 : Int32 → Int32 → Int32 → Hp → Option (Int32 × Hp)} {c_167 : Int32 → Int32 → Int32 → Hp → Option (Int32 × Hp)} {dg : Nat} (hd : 2 ≤ d) (hgd : dg < d) (hc_166 : ∀ {v1 : Int32} {v2 : Int32} {v3 : Int32} {h : Hp} {r : Int32 × Hp}, c_166 v1 v2 v3 h = some r → CI dg 166 [.ref 61, .int v1, .int v2, .int v3] h (fun x g => x = r.1 ∧ g = r.2)) (hc_167 : ∀ {v1 : Int32} {v2 : Int32} {v3 : Int32} {h : Hp} {r : Int32 × Hp}, c_167 v1 v2 v3 h = some r → CI dg 167 [.ref 61, .int v1, .int v2, .int v3] h (fun x g => x = r.1 ∧ g = r.2)) (hq : RtX X (some (.int r.1)) r.2) {h : Hp} {v1 : Int32} {v2 : Int32} {v3 : Int32} (e : R_167_0 c_166 c_167 v1 v2 v3 h = some r) : G X d 167 0 [some (.ref 61), some (.int v1), some (.int v2), some (.int v3), none] [] h := by
  unfold R_167_0 at e
  refine k_167_0 (fun c => ?_) (fun c => ?_)
  · rw [if_neg c] at e; exact r_167_13 hd hgd hc_166 hc_167 hq e
  · rw [if_pos c] at e; exact r_167_7 hd hgd hc_166 hc_167 hq e
noncomputable def SG_166 : Nat → (Int32 → Int32 → Int32 → Hp → Option (Int32 × Hp)) × (Int32 → Int32 → Int32 → Hp → Option (Int32 × Hp))
  | 0 => (fun _ _ _ _ => none, fun _ _ _ _ => none)
  | n + 1 => (fun v1 v2 v3 h => R_166_0 (SG_166 n).1 (SG_166 n).2 v1 v2 v3 h, fun v1 v2 v3 h => R_167_0 (SG_166 n).1 (SG_166 n).2 v1 v2 v3 h)
set_option maxRecDepth 100000 in
theorem tg_166 : ∀ n, (∀ {v1 : Int32} {v2 : Int32} {v3 : Int32} {h : Hp} {r : Int32 × Hp}, (SG_166 n).1 v1 v2 v3 h = some r → CI (2 + n) 166 [.ref 61, .int v1, .int v2, .int v3] h (fun x g => x = r.1 ∧ g = r.2)) ∧ (∀ {v1 : Int32} {v2 : Int32} {v3 : Int32} {h : Hp} {r : Int32 × Hp}, (SG_166 n).2 v1 v2 v3 h = some r → CI (2 + n) 167 [.ref 61, .int v1, .int v2, .int v3] h (fun x g => x = r.1 ∧ g = r.2)) := by
  intro n
  induction n with
  | zero => exact ⟨(fun e => by cases e), (fun e => by cases e)⟩
  | succ n ih =>
    obtain ⟨i166, i167⟩ := ih
    refine ⟨fun {v1} {v2} {v3} {h} {r} e => ?_, fun {v1} {v2} {v3} {h} {r} e => ?_⟩
    · refine C.of mo_166 (Nat.le_of_ble_eq_true rfl) (fun X hq => ?_)
      exact r_166_0 (by omega) (show 2 + n < 2 + (n + 1) by omega) (fun e => i166 e) (fun e => i167 e) (hq _ _ ⟨_, rfl, rfl, rfl⟩) e
    · refine C.of mo_167 (Nat.le_of_ble_eq_true rfl) (fun X hq => ?_)
      exact r_167_0 (by omega) (show 2 + n < 2 + (n + 1) by omega) (fun e => i166 e) (fun e => i167 e) (hq _ _ ⟨_, rfl, rfl, rfl⟩) e
noncomputable def S_166 (v1 : Int32) (v2 : Int32) (v3 : Int32) (h : Hp) : Option (Int32 × Hp) := (SG_166 60).1 v1 v2 v3 h
theorem t_166 {v1 : Int32} {v2 : Int32} {v3 : Int32} {h : Hp} {r : Int32 × Hp} (e : S_166 v1 v2 v3 h = some r) : CI 62 166 [.ref 61, .int v1, .int v2, .int v3] h (fun x g => x = r.1 ∧ g = r.2) := (tg_166 60).1 e
noncomputable def S_167 (v1 : Int32) (v2 : Int32) (v3 : Int32) (h : Hp) : Option (Int32 × Hp) := (SG_166 60).2 v1 v2 v3 h
theorem t_167 {v1 : Int32} {v2 : Int32} {v3 : Int32} {h : Hp} {r : Int32 × Hp} (e : S_167 v1 v2 v3 h = some r) : CI 62 167 [.ref 61, .int v1, .int v2, .int v3] h (fun x g => x = r.1 ∧ g = r.2) := (tg_166 60).2 e
/-! 165 PlayedTruth$Acting.perform(IIIII)I -/
noncomputable def R_165_43 (v6 : Int32) (h : Hp) : Option (Int32 × Hp) := some (v6, h)
theorem r_165_43 {X : GX} {d : Nat} {r : Int32 × Hp} (hd : 63 ≤ d) (hq : RtX X (some (.int r.1)) r.2) {h : Hp} {v6 : Int32} (e : R_165_43 v6 h = some r) : G X d 165 43 [none, none, none, none, none, none, some (.int v6)] [] h := by
  unfold R_165_43 at e
  rw [← Option.some.inj e] at hq
  exact k_165_43 hq
noncomputable def R_165_38 (h : Hp) : Option (Int32 × Hp) := some (((-15)), h)
theorem r_165_38 {X : GX} {d : Nat} {r : Int32 × Hp} (hd : 63 ≤ d) (hq : RtX X (some (.int r.1)) r.2) {h : Hp} (e : R_165_38 h = some r) : G X d 165 38 [none, none, none, none, none, none, none] [] h := by
  unfold R_165_38 at e
  rw [← Option.some.inj e] at hq
  exact k_165_38 hq
noncomputable def R_165_29 (s0 : Int32) (h : Hp) : Option (Int32 × Hp) := if (h 61 2) = 0 then R_165_43 s0 h else R_165_38 h
theorem r_165_29 {X : GX} {d : Nat} {r : Int32 × Hp} (hd : 63 ≤ d) (hq : RtX X (some (.int r.1)) r.2) {h : Hp} {s0 : Int32} (e : R_165_29 s0 h = some r) : G X d 165 29 [some (.ref 61), none, none, none, none, none, none] [.int s0] h := by
  unfold R_165_29 at e
  refine k_165_29 (fun c => ?_) (fun c => ?_)
  · rw [if_pos c] at e; exact r_165_43 hd hq e
  · rw [if_neg c] at e; exact r_165_38 hd hq e
noncomputable def R_165_0 (v1 : Int32) (v2 : Int32) (v3 : Int32) (v4 : Int32) (v5 : Int32) (h : Hp) : Option (Int32 × Hp) := bndI (S_166 v4 v5 0 ((wr (wr (wr (wr h 61 2 0) 61 3 v1) 61 4 v2) 61 5 v3))) (R_165_29)
theorem r_165_0 {X : GX} {d : Nat} {r : Int32 × Hp} (hd : 63 ≤ d) (hq : RtX X (some (.int r.1)) r.2) {h : Hp} {v1 : Int32} {v2 : Int32} {v3 : Int32} {v4 : Int32} {v5 : Int32} (e : R_165_0 v1 v2 v3 v4 v5 h = some r) : G X d 165 0 [some (.ref 61), some (.int v1), some (.int v2), some (.int v3), some (.int v4), some (.int v5), none] [] h := by
  unfold R_165_0 at e
  obtain ⟨x, h2, e1, e2⟩ := bndI_s e
  refine k_165_0 (by omega) (t_166 e1) ?_
  rintro _ _ ⟨rfl, rfl⟩
  exact r_165_29 hd hq e2
noncomputable def S_165 (v1 : Int32) (v2 : Int32) (v3 : Int32) (v4 : Int32) (v5 : Int32) (h : Hp) : Option (Int32 × Hp) := R_165_0 v1 v2 v3 v4 v5 h
set_option maxRecDepth 100000 in
theorem t_165 {v1 : Int32} {v2 : Int32} {v3 : Int32} {v4 : Int32} {v5 : Int32} {h : Hp} {r : Int32 × Hp} (e : S_165 v1 v2 v3 v4 v5 h = some r) : CI 63 165 [.ref 61, .int v1, .int v2, .int v3, .int v4, .int v5] h (fun x g => x = r.1 ∧ g = r.2) := by
  refine C.of mo_165 (Nat.le_of_ble_eq_true rfl) (fun X hq => ?_)
  exact r_165_0 (Nat.le_refl _) (hq _ _ ⟨_, rfl, rfl, rfl⟩) e
/-! 163 PlayedTruth.act(III)I -/
noncomputable def R_163_23 (h : Hp) : Option (Int32 × Hp) := some (0, h)
theorem r_163_23 {X : GX} {d : Nat} {r : Int32 × Hp} (hd : 64 ≤ d) (hq : RtX X (some (.int r.1)) r.2) {h : Hp} (e : R_163_23 h = some r) : G X d 163 23 [none, none, none, none, none] [] h := by
  unfold R_163_23 at e
  rw [← Option.some.inj e] at hq
  exact k_163_23 hq
noncomputable def R_163_46 (h : Hp) : Option (Int32 × Hp) := some (0, h)
theorem r_163_46 {X : GX} {d : Nat} {r : Int32 × Hp} (hd : 64 ≤ d) (hq : RtX X (some (.int r.1)) r.2) {h : Hp} (e : R_163_46 h = some r) : G X d 163 46 [none, none, none, none, none] [] h := by
  unfold R_163_46 at e
  rw [← Option.some.inj e] at hq
  exact k_163_46 hq
noncomputable def R_163_90 (s0 : Int32) (h : Hp) : Option (Int32 × Hp) := some (s0, h)
theorem r_163_90 {X : GX} {d : Nat} {r : Int32 × Hp} (hd : 64 ≤ d) (hq : RtX X (some (.int r.1)) r.2) {h : Hp} {s0 : Int32} (e : R_163_90 s0 h = some r) : G X d 163 90 [none, none, none, none, none] [.int s0] h := by
  unfold R_163_90 at e
  rw [← Option.some.inj e] at hq
  exact k_163_90 hq
noncomputable def R_163_48 (v1 : Int32) (v2 : Int32) (v3 : Int32) (h : Hp) : Option (Int32 × Hp) := gd (IA 59 v1 ∧ IA 2 (h 59 (Int32.toNatClampNeg v1)) ∧ IA 3 (h 59 (Int32.toNatClampNeg v1))) (bndI (S_165 (h 2 (Int32.toNatClampNeg (h 59 (Int32.toNatClampNeg v1)))) (h 59 (Int32.toNatClampNeg v1)) (h 3 (Int32.toNatClampNeg (h 59 (Int32.toNatClampNeg v1)))) v2 v3 h) (R_163_90))
theorem r_163_48 {X : GX} {d : Nat} {r : Int32 × Hp} (hd : 64 ≤ d) (hq : RtX X (some (.int r.1)) r.2) {h : Hp} {v1 : Int32} {v2 : Int32} {v3 : Int32} (e : R_163_48 v1 v2 v3 h = some r) : G X d 163 48 [some (.ref 0), some (.int v1), some (.int v2), some (.int v3), none] [] h := by
  unfold R_163_48 at e
  have g := gd_s e; clear e; obtain ⟨⟨b0, b1, b2⟩, e⟩ := g
  obtain ⟨x, h2, e1, e2⟩ := bndI_s e
  refine k_163_48 b0 b1 b2 (by omega) (t_165 e1) ?_
  rintro _ _ ⟨rfl, rfl⟩
  exact r_163_90 hd hq e2
noncomputable def R_163_33 (v1 : Int32) (v2 : Int32) (v3 : Int32) (h : Hp) : Option (Int32 × Hp) := gd (IA 58 v1) (if (h 58 (Int32.toNatClampNeg v1)) = 2 then R_163_46 h else R_163_48 v1 v2 v3 h)
theorem r_163_33 {X : GX} {d : Nat} {r : Int32 × Hp} (hd : 64 ≤ d) (hq : RtX X (some (.int r.1)) r.2) {h : Hp} {v1 : Int32} {v2 : Int32} {v3 : Int32} (e : R_163_33 v1 v2 v3 h = some r) : G X d 163 33 [some (.ref 0), some (.int v1), some (.int v2), some (.int v3), none] [] h := by
  unfold R_163_33 at e
  have g := gd_s e; clear e; obtain ⟨b0, e⟩ := g
  refine k_163_33 b0 (fun c => ?_) (fun c => ?_)
  · rw [if_neg c] at e; exact r_163_48 hd hq e
  · rw [if_pos c] at e; exact r_163_46 hd hq e
noncomputable def R_163_30 (v1 : Int32) (v2 : Int32) (v3 : Int32) (s0 : Int32) (h : Hp) : Option (Int32 × Hp) := if s0 = 0 then R_163_33 v1 v2 v3 h else R_163_46 h
theorem r_163_30 {X : GX} {d : Nat} {r : Int32 × Hp} (hd : 64 ≤ d) (hq : RtX X (some (.int r.1)) r.2) {h : Hp} {v1 : Int32} {v2 : Int32} {v3 : Int32} {s0 : Int32} (e : R_163_30 v1 v2 v3 s0 h = some r) : G X d 163 30 [some (.ref 0), some (.int v1), some (.int v2), some (.int v3), none] [.int s0] h := by
  unfold R_163_30 at e
  refine k_163_30 (fun c => ?_) (fun c => ?_)
  · rw [if_neg c] at e; exact r_163_46 hd hq e
  · rw [if_pos c] at e; exact r_163_33 hd hq e
noncomputable def R_163_25 (v1 : Int32) (v2 : Int32) (v3 : Int32) (h : Hp) : Option (Int32 × Hp) := bndI (S_162 v1 h) (R_163_30 v1 v2 v3)
theorem r_163_25 {X : GX} {d : Nat} {r : Int32 × Hp} (hd : 64 ≤ d) (hq : RtX X (some (.int r.1)) r.2) {h : Hp} {v1 : Int32} {v2 : Int32} {v3 : Int32} (e : R_163_25 v1 v2 v3 h = some r) : G X d 163 25 [some (.ref 0), some (.int v1), some (.int v2), some (.int v3), none] [] h := by
  unfold R_163_25 at e
  obtain ⟨x, h2, e1, e2⟩ := bndI_s e
  refine k_163_25 (by omega) (t_162 e1) ?_
  rintro _ _ ⟨rfl, rfl⟩
  exact r_163_30 hd hq e2
noncomputable def R_163_20 (v1 : Int32) (v2 : Int32) (v3 : Int32) (s0 : Int32) (h : Hp) : Option (Int32 × Hp) := if s0 = 0 then R_163_23 h else R_163_25 v1 v2 v3 h
theorem r_163_20 {X : GX} {d : Nat} {r : Int32 × Hp} (hd : 64 ≤ d) (hq : RtX X (some (.int r.1)) r.2) {h : Hp} {v1 : Int32} {v2 : Int32} {v3 : Int32} {s0 : Int32} (e : R_163_20 v1 v2 v3 s0 h = some r) : G X d 163 20 [some (.ref 0), some (.int v1), some (.int v2), some (.int v3), none] [.int s0] h := by
  unfold R_163_20 at e
  refine k_163_20 (fun c => ?_) (fun c => ?_)
  · rw [if_neg c] at e; exact r_163_25 hd hq e
  · rw [if_pos c] at e; exact r_163_23 hd hq e
noncomputable def R_163_14 (v1 : Int32) (v2 : Int32) (v3 : Int32) (h : Hp) : Option (Int32 × Hp) := bndI (S_11 v2 0 3 h) (R_163_20 v1 v2 v3)
theorem r_163_14 {X : GX} {d : Nat} {r : Int32 × Hp} (hd : 64 ≤ d) (hq : RtX X (some (.int r.1)) r.2) {h : Hp} {v1 : Int32} {v2 : Int32} {v3 : Int32} (e : R_163_14 v1 v2 v3 h = some r) : G X d 163 14 [some (.ref 0), some (.int v1), some (.int v2), some (.int v3), none] [] h := by
  unfold R_163_14 at e
  obtain ⟨x, h2, e1, e2⟩ := bndI_s e
  refine k_163_14 (by omega) (t_11 e1) ?_
  rintro _ _ ⟨rfl, rfl⟩
  exact r_163_20 hd hq e2
noncomputable def R_163_11 (v1 : Int32) (v2 : Int32) (v3 : Int32) (s0 : Int32) (h : Hp) : Option (Int32 × Hp) := if s0 = 0 then R_163_23 h else R_163_14 v1 v2 v3 h
theorem r_163_11 {X : GX} {d : Nat} {r : Int32 × Hp} (hd : 64 ≤ d) (hq : RtX X (some (.int r.1)) r.2) {h : Hp} {v1 : Int32} {v2 : Int32} {v3 : Int32} {s0 : Int32} (e : R_163_11 v1 v2 v3 s0 h = some r) : G X d 163 11 [some (.ref 0), some (.int v1), some (.int v2), some (.int v3), none] [.int s0] h := by
  unfold R_163_11 at e
  refine k_163_11 (fun c => ?_) (fun c => ?_)
  · rw [if_pos c] at e; exact r_163_23 hd hq e
  · rw [if_neg c] at e; exact r_163_14 hd hq e
noncomputable def R_163_7 (v1 : Int32) (v2 : Int32) (v3 : Int32) (h : Hp) : Option (Int32 × Hp) := bndI (S_158 v1 h) (R_163_11 v1 v2 v3)
theorem r_163_7 {X : GX} {d : Nat} {r : Int32 × Hp} (hd : 64 ≤ d) (hq : RtX X (some (.int r.1)) r.2) {h : Hp} {v1 : Int32} {v2 : Int32} {v3 : Int32} (e : R_163_7 v1 v2 v3 h = some r) : G X d 163 7 [some (.ref 0), some (.int v1), some (.int v2), some (.int v3), none] [] h := by
  unfold R_163_7 at e
  obtain ⟨x, h2, e1, e2⟩ := bndI_s e
  refine k_163_7 (by omega) (t_158 e1) ?_
  rintro _ _ ⟨rfl, rfl⟩
  exact r_163_11 hd hq e2
noncomputable def R_163_0 (v1 : Int32) (v2 : Int32) (v3 : Int32) (h : Hp) : Option (Int32 × Hp) := bndV (S_164 h) (R_163_7 v1 v2 v3)
theorem r_163_0 {X : GX} {d : Nat} {r : Int32 × Hp} (hd : 64 ≤ d) (hq : RtX X (some (.int r.1)) r.2) {h : Hp} {v1 : Int32} {v2 : Int32} {v3 : Int32} (e : R_163_0 v1 v2 v3 h = some r) : G X d 163 0 [some (.ref 0), some (.int v1), some (.int v2), some (.int v3), none] [] h := by
  unfold R_163_0 at e
  obtain ⟨x, h2, e1, e2⟩ := bndV_s e
  refine k_163_0 (by omega) (t_164 e1) ?_
  rintro _ rfl
  exact r_163_7 hd hq e2
noncomputable def S_163 (v1 : Int32) (v2 : Int32) (v3 : Int32) (h : Hp) : Option (Int32 × Hp) := R_163_0 v1 v2 v3 h
set_option maxRecDepth 100000 in
theorem t_163 {v1 : Int32} {v2 : Int32} {v3 : Int32} {h : Hp} {r : Int32 × Hp} (e : S_163 v1 v2 v3 h = some r) : CI 64 163 [.ref 0, .int v1, .int v2, .int v3] h (fun x g => x = r.1 ∧ g = r.2) := by
  refine C.of mo_163 (Nat.le_of_ble_eq_true rfl) (fun X hq => ?_)
  exact r_163_0 (Nat.le_refl _) (hq _ _ ⟨_, rfl, rfl, rfl⟩) e
/-! 169 PlayedTruth.trace(I)I -/
noncomputable def R_169_29 (h : Hp) : Option (Int32 × Hp) := some (((-3)), h)
theorem r_169_29 {X : GX} {d : Nat} {r : Int32 × Hp} (hd : 2 ≤ d) (hq : RtX X (some (.int r.1)) r.2) {h : Hp} (e : R_169_29 h = some r) : G X d 169 29 [none, none] [] h := by
  unfold R_169_29 at e
  rw [← Option.some.inj e] at hq
  exact k_169_29 hq
noncomputable def R_169_17 (v1 : Int32) (h : Hp) : Option (Int32 × Hp) := gd (IA 62 v1) (some ((h 62 (Int32.toNatClampNeg v1)), h))
theorem r_169_17 {X : GX} {d : Nat} {r : Int32 × Hp} (hd : 2 ≤ d) (hq : RtX X (some (.int r.1)) r.2) {h : Hp} {v1 : Int32} (e : R_169_17 v1 h = some r) : G X d 169 17 [some (.ref 0), some (.int v1)] [] h := by
  unfold R_169_17 at e
  have g := gd_s e; clear e; obtain ⟨b0, e⟩ := g
  rw [← Option.some.inj e] at hq
  exact k_169_17 b0 hq
noncomputable def R_169_14 (v1 : Int32) (s0 : Int32) (h : Hp) : Option (Int32 × Hp) := if s0 = 0 then R_169_29 h else R_169_17 v1 h
theorem r_169_14 {X : GX} {d : Nat} {r : Int32 × Hp} (hd : 2 ≤ d) (hq : RtX X (some (.int r.1)) r.2) {h : Hp} {v1 : Int32} {s0 : Int32} (e : R_169_14 v1 s0 h = some r) : G X d 169 14 [some (.ref 0), some (.int v1)] [.int s0] h := by
  unfold R_169_14 at e
  refine k_169_14 (fun c => ?_) (fun c => ?_)
  · rw [if_pos c] at e; exact r_169_29 hd hq e
  · rw [if_neg c] at e; exact r_169_17 hd hq e
noncomputable def R_169_0 (v1 : Int32) (h : Hp) : Option (Int32 × Hp) := bndI (S_11 v1 0 ((h 61 1) - 1) h) (R_169_14 v1)
theorem r_169_0 {X : GX} {d : Nat} {r : Int32 × Hp} (hd : 2 ≤ d) (hq : RtX X (some (.int r.1)) r.2) {h : Hp} {v1 : Int32} (e : R_169_0 v1 h = some r) : G X d 169 0 [some (.ref 0), some (.int v1)] [] h := by
  unfold R_169_0 at e
  obtain ⟨x, h2, e1, e2⟩ := bndI_s e
  refine k_169_0 (by omega) (t_11 e1) ?_
  rintro _ _ ⟨rfl, rfl⟩
  exact r_169_14 hd hq e2
noncomputable def S_169 (v1 : Int32) (h : Hp) : Option (Int32 × Hp) := R_169_0 v1 h
set_option maxRecDepth 100000 in
theorem t_169 {v1 : Int32} {h : Hp} {r : Int32 × Hp} (e : S_169 v1 h = some r) : CI 2 169 [.ref 0, .int v1] h (fun x g => x = r.1 ∧ g = r.2) := by
  refine C.of mo_169 (Nat.le_of_ble_eq_true rfl) (fun X hq => ?_)
  exact r_169_0 (Nat.le_refl _) (hq _ _ ⟨_, rfl, rfl, rfl⟩) e
/-! 170 PlayedTruth.many(I)I -/
noncomputable def R_170_44 (h : Hp) : Option (Int32 × Hp) := some ((h 1 7), h)
theorem r_170_44 {X : GX} {d : Nat} {r : Int32 × Hp} (hd : 2 ≤ d) (hq : RtX X (some (.int r.1)) r.2) {h : Hp} (e : R_170_44 h = some r) : G X d 170 44 [some (.ref 0), none] [] h := by
  unfold R_170_44 at e
  rw [← Option.some.inj e] at hq
  exact k_170_44 hq
noncomputable def R_170_52 (h : Hp) : Option (Int32 × Hp) := some ((h 7 5), h)
theorem r_170_52 {X : GX} {d : Nat} {r : Int32 × Hp} (hd : 2 ≤ d) (hq : RtX X (some (.int r.1)) r.2) {h : Hp} (e : R_170_52 h = some r) : G X d 170 52 [some (.ref 0), none] [] h := by
  unfold R_170_52 at e
  rw [← Option.some.inj e] at hq
  exact k_170_52 hq
noncomputable def R_170_73 (s0 : Int32) (h : Hp) : Option (Int32 × Hp) := some (s0, h)
theorem r_170_73 {X : GX} {d : Nat} {r : Int32 × Hp} (hd : 2 ≤ d) (hq : RtX X (some (.int r.1)) r.2) {h : Hp} {s0 : Int32} (e : R_170_73 s0 h = some r) : G X d 170 73 [none, none] [.int s0] h := by
  unfold R_170_73 at e
  rw [← Option.some.inj e] at hq
  exact k_170_73 hq
noncomputable def R_170_63 (h : Hp) : Option (Int32 × Hp) := bndI (S_105 (h 13 2) h) (R_170_73)
theorem r_170_63 {X : GX} {d : Nat} {r : Int32 × Hp} (hd : 2 ≤ d) (hq : RtX X (some (.int r.1)) r.2) {h : Hp} (e : R_170_63 h = some r) : G X d 170 63 [some (.ref 0), none] [] h := by
  unfold R_170_63 at e
  obtain ⟨x, h2, e1, e2⟩ := bndI_s e
  refine k_170_63 (by omega) (t_105 e1) ?_
  rintro _ _ ⟨rfl, rfl⟩
  exact r_170_73 hd hq e2
noncomputable def R_170_74 (h : Hp) : Option (Int32 × Hp) := some ((h 16 4), h)
theorem r_170_74 {X : GX} {d : Nat} {r : Int32 × Hp} (hd : 2 ≤ d) (hq : RtX X (some (.int r.1)) r.2) {h : Hp} (e : R_170_74 h = some r) : G X d 170 74 [some (.ref 0), none] [] h := by
  unfold R_170_74 at e
  rw [← Option.some.inj e] at hq
  exact k_170_74 hq
noncomputable def R_170_82 (h : Hp) : Option (Int32 × Hp) := some ((h 0 8), h)
theorem r_170_82 {X : GX} {d : Nat} {r : Int32 × Hp} (hd : 2 ≤ d) (hq : RtX X (some (.int r.1)) r.2) {h : Hp} (e : R_170_82 h = some r) : G X d 170 82 [some (.ref 0), none] [] h := by
  unfold R_170_82 at e
  rw [← Option.some.inj e] at hq
  exact k_170_82 hq
noncomputable def R_170_87 (h : Hp) : Option (Int32 × Hp) := some ((h 21 1), h)
theorem r_170_87 {X : GX} {d : Nat} {r : Int32 × Hp} (hd : 2 ≤ d) (hq : RtX X (some (.int r.1)) r.2) {h : Hp} (e : R_170_87 h = some r) : G X d 170 87 [some (.ref 0), none] [] h := by
  unfold R_170_87 at e
  rw [← Option.some.inj e] at hq
  exact k_170_87 hq
noncomputable def R_170_95 (h : Hp) : Option (Int32 × Hp) := some ((h 61 1), h)
theorem r_170_95 {X : GX} {d : Nat} {r : Int32 × Hp} (hd : 2 ≤ d) (hq : RtX X (some (.int r.1)) r.2) {h : Hp} (e : R_170_95 h = some r) : G X d 170 95 [some (.ref 0), none] [] h := by
  unfold R_170_95 at e
  rw [← Option.some.inj e] at hq
  exact k_170_95 hq
noncomputable def R_170_103 (h : Hp) : Option (Int32 × Hp) := some (((-1)), h)
theorem r_170_103 {X : GX} {d : Nat} {r : Int32 × Hp} (hd : 2 ≤ d) (hq : RtX X (some (.int r.1)) r.2) {h : Hp} (e : R_170_103 h = some r) : G X d 170 103 [none, none] [] h := by
  unfold R_170_103 at e
  rw [← Option.some.inj e] at hq
  exact k_170_103 hq
noncomputable def R_170_0 (v1 : Int32) (h : Hp) : Option (Int32 × Hp) := if v1 = 0 then R_170_44 h else (if v1 = 1 then R_170_52 h else (if v1 = 2 then R_170_63 h else (if v1 = 3 then R_170_74 h else (if v1 = 4 then R_170_82 h else (if v1 = 5 then R_170_87 h else (if v1 = 6 then R_170_95 h else (R_170_103 h)))))))
theorem r_170_0 {X : GX} {d : Nat} {r : Int32 × Hp} (hd : 2 ≤ d) (hq : RtX X (some (.int r.1)) r.2) {h : Hp} {v1 : Int32} (e : R_170_0 v1 h = some r) : G X d 170 0 [some (.ref 0), some (.int v1)] [] h := by
  unfold R_170_0 at e
  refine k_170_0 (fun c => ?_) (fun c => ?_) (fun c => ?_) (fun c => ?_) (fun c => ?_) (fun c => ?_) (fun c => ?_) (fun c0 c1 c2 c3 c4 c5 c6 => ?_)
  · rw [if_pos c] at e; exact r_170_44 hd hq e
  · rw [if_neg (show ¬ v1 = 0 by rw [c]; decide), if_pos c] at e; exact r_170_52 hd hq e
  · rw [if_neg (show ¬ v1 = 0 by rw [c]; decide), if_neg (show ¬ v1 = 1 by rw [c]; decide), if_pos c] at e; exact r_170_63 hd hq e
  · rw [if_neg (show ¬ v1 = 0 by rw [c]; decide), if_neg (show ¬ v1 = 1 by rw [c]; decide), if_neg (show ¬ v1 = 2 by rw [c]; decide), if_pos c] at e; exact r_170_74 hd hq e
  · rw [if_neg (show ¬ v1 = 0 by rw [c]; decide), if_neg (show ¬ v1 = 1 by rw [c]; decide), if_neg (show ¬ v1 = 2 by rw [c]; decide), if_neg (show ¬ v1 = 3 by rw [c]; decide), if_pos c] at e; exact r_170_82 hd hq e
  · rw [if_neg (show ¬ v1 = 0 by rw [c]; decide), if_neg (show ¬ v1 = 1 by rw [c]; decide), if_neg (show ¬ v1 = 2 by rw [c]; decide), if_neg (show ¬ v1 = 3 by rw [c]; decide), if_neg (show ¬ v1 = 4 by rw [c]; decide), if_pos c] at e; exact r_170_87 hd hq e
  · rw [if_neg (show ¬ v1 = 0 by rw [c]; decide), if_neg (show ¬ v1 = 1 by rw [c]; decide), if_neg (show ¬ v1 = 2 by rw [c]; decide), if_neg (show ¬ v1 = 3 by rw [c]; decide), if_neg (show ¬ v1 = 4 by rw [c]; decide), if_neg (show ¬ v1 = 5 by rw [c]; decide), if_pos c] at e; exact r_170_95 hd hq e
  · rw [if_neg c0, if_neg c1, if_neg c2, if_neg c3, if_neg c4, if_neg c5, if_neg c6] at e; exact r_170_103 hd hq e
noncomputable def S_170 (v1 : Int32) (h : Hp) : Option (Int32 × Hp) := R_170_0 v1 h
set_option maxRecDepth 100000 in
theorem t_170 {v1 : Int32} {h : Hp} {r : Int32 × Hp} (e : S_170 v1 h = some r) : CI 2 170 [.ref 0, .int v1] h (fun x g => x = r.1 ∧ g = r.2) := by
  refine C.of mo_170 (Nat.le_of_ble_eq_true rfl) (fun X hq => ?_)
  exact r_170_0 (Nat.le_refl _) (hq _ _ ⟨_, rfl, rfl, rfl⟩) e
/-! 172 PlayedTruth$Stage.copyFrom(LPlayedTruth$Stage;)V -/
noncomputable def R_172_86 (v0 : Nat) (v1 : Nat) (h : Hp) : Option (Int32 × Hp) := gd (sh v1 = (1, 6) ∧ sh v0 = (1, 6)) (some (0, (wr (wr h v0 7 (h v1 7)) v0 8 ((wr h v0 7 (h v1 7)) v1 8))))
theorem r_172_86 {X : GX} {d : Nat} {r : Int32 × Hp} (hd : 2 ≤ d) (hq : RtX X none r.2) {h : Hp} {v0 : Nat} {v1 : Nat} (e : R_172_86 v0 v1 h = some r) : G X d 172 86 [some (.ref v0), some (.ref v1)] [] h := by
  unfold R_172_86 at e
  have g := gd_s e; clear e; obtain ⟨⟨o0, o1⟩, e⟩ := g
  rw [← Option.some.inj e] at hq
  exact k_172_86 o0 o1 hq
noncomputable def R_172_0 (v0 : Nat) (v1 : Nat) (h : Hp) : Option (Int32 × Hp) := gd (sh v1 = (1, 6) ∧ sh v0 = (1, 6) ∧ sh (v1 + 1) = (0, 6) ∧ sh (v0 + 1) = (0, 6) ∧ sh (v1 + 2) = (0, 6) ∧ sh (v0 + 2) = (0, 6) ∧ sh (v1 + 3) = (0, 16) ∧ sh (v0 + 3) = (0, 16) ∧ sh (v1 + 4) = (0, 6) ∧ sh (v0 + 4) = (0, 6) ∧ sh (v1 + 5) = (0, 6) ∧ sh (v0 + 5) = (0, 6) ∧ sh (v0 + 6) = (1, 5)) (bndV (S_78 (v0 + 6) (v1 + 6) ((wrA (wrA (wrA (wrA (wrA h (v0 + 1) (va_cpy (h (v1 + 1)) (h (v0 + 1)) (Int32.toNatClampNeg 0) (Int32.toNatClampNeg 0) (Int32.toNatClampNeg 6))) (v0 + 2) (va_cpy ((wrA h (v0 + 1) (va_cpy (h (v1 + 1)) (h (v0 + 1)) (Int32.toNatClampNeg 0) (Int32.toNatClampNeg 0) (Int32.toNatClampNeg 6))) (v1 + 2)) ((wrA h (v0 + 1) (va_cpy (h (v1 + 1)) (h (v0 + 1)) (Int32.toNatClampNeg 0) (Int32.toNatClampNeg 0) (Int32.toNatClampNeg 6))) (v0 + 2)) (Int32.toNatClampNeg 0) (Int32.toNatClampNeg 0) (Int32.toNatClampNeg 6))) (v0 + 3) (va_cpy ((wrA (wrA h (v0 + 1) (va_cpy (h (v1 + 1)) (h (v0 + 1)) (Int32.toNatClampNeg 0) (Int32.toNatClampNeg 0) (Int32.toNatClampNeg 6))) (v0 + 2) (va_cpy ((wrA h (v0 + 1) (va_cpy (h (v1 + 1)) (h (v0 + 1)) (Int32.toNatClampNeg 0) (Int32.toNatClampNeg 0) (Int32.toNatClampNeg 6))) (v1 + 2)) ((wrA h (v0 + 1) (va_cpy (h (v1 + 1)) (h (v0 + 1)) (Int32.toNatClampNeg 0) (Int32.toNatClampNeg 0) (Int32.toNatClampNeg 6))) (v0 + 2)) (Int32.toNatClampNeg 0) (Int32.toNatClampNeg 0) (Int32.toNatClampNeg 6))) (v1 + 3)) ((wrA (wrA h (v0 + 1) (va_cpy (h (v1 + 1)) (h (v0 + 1)) (Int32.toNatClampNeg 0) (Int32.toNatClampNeg 0) (Int32.toNatClampNeg 6))) (v0 + 2) (va_cpy ((wrA h (v0 + 1) (va_cpy (h (v1 + 1)) (h (v0 + 1)) (Int32.toNatClampNeg 0) (Int32.toNatClampNeg 0) (Int32.toNatClampNeg 6))) (v1 + 2)) ((wrA h (v0 + 1) (va_cpy (h (v1 + 1)) (h (v0 + 1)) (Int32.toNatClampNeg 0) (Int32.toNatClampNeg 0) (Int32.toNatClampNeg 6))) (v0 + 2)) (Int32.toNatClampNeg 0) (Int32.toNatClampNeg 0) (Int32.toNatClampNeg 6))) (v0 + 3)) (Int32.toNatClampNeg 0) (Int32.toNatClampNeg 0) (Int32.toNatClampNeg 16))) (v0 + 4) (va_cpy ((wrA (wrA (wrA h (v0 + 1) (va_cpy (h (v1 + 1)) (h (v0 + 1)) (Int32.toNatClampNeg 0) (Int32.toNatClampNeg 0) (Int32.toNatClampNeg 6))) (v0 + 2) (va_cpy ((wrA h (v0 + 1) (va_cpy (h (v1 + 1)) (h (v0 + 1)) (Int32.toNatClampNeg 0) (Int32.toNatClampNeg 0) (Int32.toNatClampNeg 6))) (v1 + 2)) ((wrA h (v0 + 1) (va_cpy (h (v1 + 1)) (h (v0 + 1)) (Int32.toNatClampNeg 0) (Int32.toNatClampNeg 0) (Int32.toNatClampNeg 6))) (v0 + 2)) (Int32.toNatClampNeg 0) (Int32.toNatClampNeg 0) (Int32.toNatClampNeg 6))) (v0 + 3) (va_cpy ((wrA (wrA h (v0 + 1) (va_cpy (h (v1 + 1)) (h (v0 + 1)) (Int32.toNatClampNeg 0) (Int32.toNatClampNeg 0) (Int32.toNatClampNeg 6))) (v0 + 2) (va_cpy ((wrA h (v0 + 1) (va_cpy (h (v1 + 1)) (h (v0 + 1)) (Int32.toNatClampNeg 0) (Int32.toNatClampNeg 0) (Int32.toNatClampNeg 6))) (v1 + 2)) ((wrA h (v0 + 1) (va_cpy (h (v1 + 1)) (h (v0 + 1)) (Int32.toNatClampNeg 0) (Int32.toNatClampNeg 0) (Int32.toNatClampNeg 6))) (v0 + 2)) (Int32.toNatClampNeg 0) (Int32.toNatClampNeg 0) (Int32.toNatClampNeg 6))) (v1 + 3)) ((wrA (wrA h (v0 + 1) (va_cpy (h (v1 + 1)) (h (v0 + 1)) (Int32.toNatClampNeg 0) (Int32.toNatClampNeg 0) (Int32.toNatClampNeg 6))) (v0 + 2) (va_cpy ((wrA h (v0 + 1) (va_cpy (h (v1 + 1)) (h (v0 + 1)) (Int32.toNatClampNeg 0) (Int32.toNatClampNeg 0) (Int32.toNatClampNeg 6))) (v1 + 2)) ((wrA h (v0 + 1) (va_cpy (h (v1 + 1)) (h (v0 + 1)) (Int32.toNatClampNeg 0) (Int32.toNatClampNeg 0) (Int32.toNatClampNeg 6))) (v0 + 2)) (Int32.toNatClampNeg 0) (Int32.toNatClampNeg 0) (Int32.toNatClampNeg 6))) (v0 + 3)) (Int32.toNatClampNeg 0) (Int32.toNatClampNeg 0) (Int32.toNatClampNeg 16))) (v1 + 4)) ((wrA (wrA (wrA h (v0 + 1) (va_cpy (h (v1 + 1)) (h (v0 + 1)) (Int32.toNatClampNeg 0) (Int32.toNatClampNeg 0) (Int32.toNatClampNeg 6))) (v0 + 2) (va_cpy ((wrA h (v0 + 1) (va_cpy (h (v1 + 1)) (h (v0 + 1)) (Int32.toNatClampNeg 0) (Int32.toNatClampNeg 0) (Int32.toNatClampNeg 6))) (v1 + 2)) ((wrA h (v0 + 1) (va_cpy (h (v1 + 1)) (h (v0 + 1)) (Int32.toNatClampNeg 0) (Int32.toNatClampNeg 0) (Int32.toNatClampNeg 6))) (v0 + 2)) (Int32.toNatClampNeg 0) (Int32.toNatClampNeg 0) (Int32.toNatClampNeg 6))) (v0 + 3) (va_cpy ((wrA (wrA h (v0 + 1) (va_cpy (h (v1 + 1)) (h (v0 + 1)) (Int32.toNatClampNeg 0) (Int32.toNatClampNeg 0) (Int32.toNatClampNeg 6))) (v0 + 2) (va_cpy ((wrA h (v0 + 1) (va_cpy (h (v1 + 1)) (h (v0 + 1)) (Int32.toNatClampNeg 0) (Int32.toNatClampNeg 0) (Int32.toNatClampNeg 6))) (v1 + 2)) ((wrA h (v0 + 1) (va_cpy (h (v1 + 1)) (h (v0 + 1)) (Int32.toNatClampNeg 0) (Int32.toNatClampNeg 0) (Int32.toNatClampNeg 6))) (v0 + 2)) (Int32.toNatClampNeg 0) (Int32.toNatClampNeg 0) (Int32.toNatClampNeg 6))) (v1 + 3)) ((wrA (wrA h (v0 + 1) (va_cpy (h (v1 + 1)) (h (v0 + 1)) (Int32.toNatClampNeg 0) (Int32.toNatClampNeg 0) (Int32.toNatClampNeg 6))) (v0 + 2) (va_cpy ((wrA h (v0 + 1) (va_cpy (h (v1 + 1)) (h (v0 + 1)) (Int32.toNatClampNeg 0) (Int32.toNatClampNeg 0) (Int32.toNatClampNeg 6))) (v1 + 2)) ((wrA h (v0 + 1) (va_cpy (h (v1 + 1)) (h (v0 + 1)) (Int32.toNatClampNeg 0) (Int32.toNatClampNeg 0) (Int32.toNatClampNeg 6))) (v0 + 2)) (Int32.toNatClampNeg 0) (Int32.toNatClampNeg 0) (Int32.toNatClampNeg 6))) (v0 + 3)) (Int32.toNatClampNeg 0) (Int32.toNatClampNeg 0) (Int32.toNatClampNeg 16))) (v0 + 4)) (Int32.toNatClampNeg 0) (Int32.toNatClampNeg 0) (Int32.toNatClampNeg 6))) (v0 + 5) (va_cpy ((wrA (wrA (wrA (wrA h (v0 + 1) (va_cpy (h (v1 + 1)) (h (v0 + 1)) (Int32.toNatClampNeg 0) (Int32.toNatClampNeg 0) (Int32.toNatClampNeg 6))) (v0 + 2) (va_cpy ((wrA h (v0 + 1) (va_cpy (h (v1 + 1)) (h (v0 + 1)) (Int32.toNatClampNeg 0) (Int32.toNatClampNeg 0) (Int32.toNatClampNeg 6))) (v1 + 2)) ((wrA h (v0 + 1) (va_cpy (h (v1 + 1)) (h (v0 + 1)) (Int32.toNatClampNeg 0) (Int32.toNatClampNeg 0) (Int32.toNatClampNeg 6))) (v0 + 2)) (Int32.toNatClampNeg 0) (Int32.toNatClampNeg 0) (Int32.toNatClampNeg 6))) (v0 + 3) (va_cpy ((wrA (wrA h (v0 + 1) (va_cpy (h (v1 + 1)) (h (v0 + 1)) (Int32.toNatClampNeg 0) (Int32.toNatClampNeg 0) (Int32.toNatClampNeg 6))) (v0 + 2) (va_cpy ((wrA h (v0 + 1) (va_cpy (h (v1 + 1)) (h (v0 + 1)) (Int32.toNatClampNeg 0) (Int32.toNatClampNeg 0) (Int32.toNatClampNeg 6))) (v1 + 2)) ((wrA h (v0 + 1) (va_cpy (h (v1 + 1)) (h (v0 + 1)) (Int32.toNatClampNeg 0) (Int32.toNatClampNeg 0) (Int32.toNatClampNeg 6))) (v0 + 2)) (Int32.toNatClampNeg 0) (Int32.toNatClampNeg 0) (Int32.toNatClampNeg 6))) (v1 + 3)) ((wrA (wrA h (v0 + 1) (va_cpy (h (v1 + 1)) (h (v0 + 1)) (Int32.toNatClampNeg 0) (Int32.toNatClampNeg 0) (Int32.toNatClampNeg 6))) (v0 + 2) (va_cpy ((wrA h (v0 + 1) (va_cpy (h (v1 + 1)) (h (v0 + 1)) (Int32.toNatClampNeg 0) (Int32.toNatClampNeg 0) (Int32.toNatClampNeg 6))) (v1 + 2)) ((wrA h (v0 + 1) (va_cpy (h (v1 + 1)) (h (v0 + 1)) (Int32.toNatClampNeg 0) (Int32.toNatClampNeg 0) (Int32.toNatClampNeg 6))) (v0 + 2)) (Int32.toNatClampNeg 0) (Int32.toNatClampNeg 0) (Int32.toNatClampNeg 6))) (v0 + 3)) (Int32.toNatClampNeg 0) (Int32.toNatClampNeg 0) (Int32.toNatClampNeg 16))) (v0 + 4) (va_cpy ((wrA (wrA (wrA h (v0 + 1) (va_cpy (h (v1 + 1)) (h (v0 + 1)) (Int32.toNatClampNeg 0) (Int32.toNatClampNeg 0) (Int32.toNatClampNeg 6))) (v0 + 2) (va_cpy ((wrA h (v0 + 1) (va_cpy (h (v1 + 1)) (h (v0 + 1)) (Int32.toNatClampNeg 0) (Int32.toNatClampNeg 0) (Int32.toNatClampNeg 6))) (v1 + 2)) ((wrA h (v0 + 1) (va_cpy (h (v1 + 1)) (h (v0 + 1)) (Int32.toNatClampNeg 0) (Int32.toNatClampNeg 0) (Int32.toNatClampNeg 6))) (v0 + 2)) (Int32.toNatClampNeg 0) (Int32.toNatClampNeg 0) (Int32.toNatClampNeg 6))) (v0 + 3) (va_cpy ((wrA (wrA h (v0 + 1) (va_cpy (h (v1 + 1)) (h (v0 + 1)) (Int32.toNatClampNeg 0) (Int32.toNatClampNeg 0) (Int32.toNatClampNeg 6))) (v0 + 2) (va_cpy ((wrA h (v0 + 1) (va_cpy (h (v1 + 1)) (h (v0 + 1)) (Int32.toNatClampNeg 0) (Int32.toNatClampNeg 0) (Int32.toNatClampNeg 6))) (v1 + 2)) ((wrA h (v0 + 1) (va_cpy (h (v1 + 1)) (h (v0 + 1)) (Int32.toNatClampNeg 0) (Int32.toNatClampNeg 0) (Int32.toNatClampNeg 6))) (v0 + 2)) (Int32.toNatClampNeg 0) (Int32.toNatClampNeg 0) (Int32.toNatClampNeg 6))) (v1 + 3)) ((wrA (wrA h (v0 + 1) (va_cpy (h (v1 + 1)) (h (v0 + 1)) (Int32.toNatClampNeg 0) (Int32.toNatClampNeg 0) (Int32.toNatClampNeg 6))) (v0 + 2) (va_cpy ((wrA h (v0 + 1) (va_cpy (h (v1 + 1)) (h (v0 + 1)) (Int32.toNatClampNeg 0) (Int32.toNatClampNeg 0) (Int32.toNatClampNeg 6))) (v1 + 2)) ((wrA h (v0 + 1) (va_cpy (h (v1 + 1)) (h (v0 + 1)) (Int32.toNatClampNeg 0) (Int32.toNatClampNeg 0) (Int32.toNatClampNeg 6))) (v0 + 2)) (Int32.toNatClampNeg 0) (Int32.toNatClampNeg 0) (Int32.toNatClampNeg 6))) (v0 + 3)) (Int32.toNatClampNeg 0) (Int32.toNatClampNeg 0) (Int32.toNatClampNeg 16))) (v1 + 4)) ((wrA (wrA (wrA h (v0 + 1) (va_cpy (h (v1 + 1)) (h (v0 + 1)) (Int32.toNatClampNeg 0) (Int32.toNatClampNeg 0) (Int32.toNatClampNeg 6))) (v0 + 2) (va_cpy ((wrA h (v0 + 1) (va_cpy (h (v1 + 1)) (h (v0 + 1)) (Int32.toNatClampNeg 0) (Int32.toNatClampNeg 0) (Int32.toNatClampNeg 6))) (v1 + 2)) ((wrA h (v0 + 1) (va_cpy (h (v1 + 1)) (h (v0 + 1)) (Int32.toNatClampNeg 0) (Int32.toNatClampNeg 0) (Int32.toNatClampNeg 6))) (v0 + 2)) (Int32.toNatClampNeg 0) (Int32.toNatClampNeg 0) (Int32.toNatClampNeg 6))) (v0 + 3) (va_cpy ((wrA (wrA h (v0 + 1) (va_cpy (h (v1 + 1)) (h (v0 + 1)) (Int32.toNatClampNeg 0) (Int32.toNatClampNeg 0) (Int32.toNatClampNeg 6))) (v0 + 2) (va_cpy ((wrA h (v0 + 1) (va_cpy (h (v1 + 1)) (h (v0 + 1)) (Int32.toNatClampNeg 0) (Int32.toNatClampNeg 0) (Int32.toNatClampNeg 6))) (v1 + 2)) ((wrA h (v0 + 1) (va_cpy (h (v1 + 1)) (h (v0 + 1)) (Int32.toNatClampNeg 0) (Int32.toNatClampNeg 0) (Int32.toNatClampNeg 6))) (v0 + 2)) (Int32.toNatClampNeg 0) (Int32.toNatClampNeg 0) (Int32.toNatClampNeg 6))) (v1 + 3)) ((wrA (wrA h (v0 + 1) (va_cpy (h (v1 + 1)) (h (v0 + 1)) (Int32.toNatClampNeg 0) (Int32.toNatClampNeg 0) (Int32.toNatClampNeg 6))) (v0 + 2) (va_cpy ((wrA h (v0 + 1) (va_cpy (h (v1 + 1)) (h (v0 + 1)) (Int32.toNatClampNeg 0) (Int32.toNatClampNeg 0) (Int32.toNatClampNeg 6))) (v1 + 2)) ((wrA h (v0 + 1) (va_cpy (h (v1 + 1)) (h (v0 + 1)) (Int32.toNatClampNeg 0) (Int32.toNatClampNeg 0) (Int32.toNatClampNeg 6))) (v0 + 2)) (Int32.toNatClampNeg 0) (Int32.toNatClampNeg 0) (Int32.toNatClampNeg 6))) (v0 + 3)) (Int32.toNatClampNeg 0) (Int32.toNatClampNeg 0) (Int32.toNatClampNeg 16))) (v0 + 4)) (Int32.toNatClampNeg 0) (Int32.toNatClampNeg 0) (Int32.toNatClampNeg 6))) (v1 + 5)) ((wrA (wrA (wrA (wrA h (v0 + 1) (va_cpy (h (v1 + 1)) (h (v0 + 1)) (Int32.toNatClampNeg 0) (Int32.toNatClampNeg 0) (Int32.toNatClampNeg 6))) (v0 + 2) (va_cpy ((wrA h (v0 + 1) (va_cpy (h (v1 + 1)) (h (v0 + 1)) (Int32.toNatClampNeg 0) (Int32.toNatClampNeg 0) (Int32.toNatClampNeg 6))) (v1 + 2)) ((wrA h (v0 + 1) (va_cpy (h (v1 + 1)) (h (v0 + 1)) (Int32.toNatClampNeg 0) (Int32.toNatClampNeg 0) (Int32.toNatClampNeg 6))) (v0 + 2)) (Int32.toNatClampNeg 0) (Int32.toNatClampNeg 0) (Int32.toNatClampNeg 6))) (v0 + 3) (va_cpy ((wrA (wrA h (v0 + 1) (va_cpy (h (v1 + 1)) (h (v0 + 1)) (Int32.toNatClampNeg 0) (Int32.toNatClampNeg 0) (Int32.toNatClampNeg 6))) (v0 + 2) (va_cpy ((wrA h (v0 + 1) (va_cpy (h (v1 + 1)) (h (v0 + 1)) (Int32.toNatClampNeg 0) (Int32.toNatClampNeg 0) (Int32.toNatClampNeg 6))) (v1 + 2)) ((wrA h (v0 + 1) (va_cpy (h (v1 + 1)) (h (v0 + 1)) (Int32.toNatClampNeg 0) (Int32.toNatClampNeg 0) (Int32.toNatClampNeg 6))) (v0 + 2)) (Int32.toNatClampNeg 0) (Int32.toNatClampNeg 0) (Int32.toNatClampNeg 6))) (v1 + 3)) ((wrA (wrA h (v0 + 1) (va_cpy (h (v1 + 1)) (h (v0 + 1)) (Int32.toNatClampNeg 0) (Int32.toNatClampNeg 0) (Int32.toNatClampNeg 6))) (v0 + 2) (va_cpy ((wrA h (v0 + 1) (va_cpy (h (v1 + 1)) (h (v0 + 1)) (Int32.toNatClampNeg 0) (Int32.toNatClampNeg 0) (Int32.toNatClampNeg 6))) (v1 + 2)) ((wrA h (v0 + 1) (va_cpy (h (v1 + 1)) (h (v0 + 1)) (Int32.toNatClampNeg 0) (Int32.toNatClampNeg 0) (Int32.toNatClampNeg 6))) (v0 + 2)) (Int32.toNatClampNeg 0) (Int32.toNatClampNeg 0) (Int32.toNatClampNeg 6))) (v0 + 3)) (Int32.toNatClampNeg 0) (Int32.toNatClampNeg 0) (Int32.toNatClampNeg 16))) (v0 + 4) (va_cpy ((wrA (wrA (wrA h (v0 + 1) (va_cpy (h (v1 + 1)) (h (v0 + 1)) (Int32.toNatClampNeg 0) (Int32.toNatClampNeg 0) (Int32.toNatClampNeg 6))) (v0 + 2) (va_cpy ((wrA h (v0 + 1) (va_cpy (h (v1 + 1)) (h (v0 + 1)) (Int32.toNatClampNeg 0) (Int32.toNatClampNeg 0) (Int32.toNatClampNeg 6))) (v1 + 2)) ((wrA h (v0 + 1) (va_cpy (h (v1 + 1)) (h (v0 + 1)) (Int32.toNatClampNeg 0) (Int32.toNatClampNeg 0) (Int32.toNatClampNeg 6))) (v0 + 2)) (Int32.toNatClampNeg 0) (Int32.toNatClampNeg 0) (Int32.toNatClampNeg 6))) (v0 + 3) (va_cpy ((wrA (wrA h (v0 + 1) (va_cpy (h (v1 + 1)) (h (v0 + 1)) (Int32.toNatClampNeg 0) (Int32.toNatClampNeg 0) (Int32.toNatClampNeg 6))) (v0 + 2) (va_cpy ((wrA h (v0 + 1) (va_cpy (h (v1 + 1)) (h (v0 + 1)) (Int32.toNatClampNeg 0) (Int32.toNatClampNeg 0) (Int32.toNatClampNeg 6))) (v1 + 2)) ((wrA h (v0 + 1) (va_cpy (h (v1 + 1)) (h (v0 + 1)) (Int32.toNatClampNeg 0) (Int32.toNatClampNeg 0) (Int32.toNatClampNeg 6))) (v0 + 2)) (Int32.toNatClampNeg 0) (Int32.toNatClampNeg 0) (Int32.toNatClampNeg 6))) (v1 + 3)) ((wrA (wrA h (v0 + 1) (va_cpy (h (v1 + 1)) (h (v0 + 1)) (Int32.toNatClampNeg 0) (Int32.toNatClampNeg 0) (Int32.toNatClampNeg 6))) (v0 + 2) (va_cpy ((wrA h (v0 + 1) (va_cpy (h (v1 + 1)) (h (v0 + 1)) (Int32.toNatClampNeg 0) (Int32.toNatClampNeg 0) (Int32.toNatClampNeg 6))) (v1 + 2)) ((wrA h (v0 + 1) (va_cpy (h (v1 + 1)) (h (v0 + 1)) (Int32.toNatClampNeg 0) (Int32.toNatClampNeg 0) (Int32.toNatClampNeg 6))) (v0 + 2)) (Int32.toNatClampNeg 0) (Int32.toNatClampNeg 0) (Int32.toNatClampNeg 6))) (v0 + 3)) (Int32.toNatClampNeg 0) (Int32.toNatClampNeg 0) (Int32.toNatClampNeg 16))) (v1 + 4)) ((wrA (wrA (wrA h (v0 + 1) (va_cpy (h (v1 + 1)) (h (v0 + 1)) (Int32.toNatClampNeg 0) (Int32.toNatClampNeg 0) (Int32.toNatClampNeg 6))) (v0 + 2) (va_cpy ((wrA h (v0 + 1) (va_cpy (h (v1 + 1)) (h (v0 + 1)) (Int32.toNatClampNeg 0) (Int32.toNatClampNeg 0) (Int32.toNatClampNeg 6))) (v1 + 2)) ((wrA h (v0 + 1) (va_cpy (h (v1 + 1)) (h (v0 + 1)) (Int32.toNatClampNeg 0) (Int32.toNatClampNeg 0) (Int32.toNatClampNeg 6))) (v0 + 2)) (Int32.toNatClampNeg 0) (Int32.toNatClampNeg 0) (Int32.toNatClampNeg 6))) (v0 + 3) (va_cpy ((wrA (wrA h (v0 + 1) (va_cpy (h (v1 + 1)) (h (v0 + 1)) (Int32.toNatClampNeg 0) (Int32.toNatClampNeg 0) (Int32.toNatClampNeg 6))) (v0 + 2) (va_cpy ((wrA h (v0 + 1) (va_cpy (h (v1 + 1)) (h (v0 + 1)) (Int32.toNatClampNeg 0) (Int32.toNatClampNeg 0) (Int32.toNatClampNeg 6))) (v1 + 2)) ((wrA h (v0 + 1) (va_cpy (h (v1 + 1)) (h (v0 + 1)) (Int32.toNatClampNeg 0) (Int32.toNatClampNeg 0) (Int32.toNatClampNeg 6))) (v0 + 2)) (Int32.toNatClampNeg 0) (Int32.toNatClampNeg 0) (Int32.toNatClampNeg 6))) (v1 + 3)) ((wrA (wrA h (v0 + 1) (va_cpy (h (v1 + 1)) (h (v0 + 1)) (Int32.toNatClampNeg 0) (Int32.toNatClampNeg 0) (Int32.toNatClampNeg 6))) (v0 + 2) (va_cpy ((wrA h (v0 + 1) (va_cpy (h (v1 + 1)) (h (v0 + 1)) (Int32.toNatClampNeg 0) (Int32.toNatClampNeg 0) (Int32.toNatClampNeg 6))) (v1 + 2)) ((wrA h (v0 + 1) (va_cpy (h (v1 + 1)) (h (v0 + 1)) (Int32.toNatClampNeg 0) (Int32.toNatClampNeg 0) (Int32.toNatClampNeg 6))) (v0 + 2)) (Int32.toNatClampNeg 0) (Int32.toNatClampNeg 0) (Int32.toNatClampNeg 6))) (v0 + 3)) (Int32.toNatClampNeg 0) (Int32.toNatClampNeg 0) (Int32.toNatClampNeg 16))) (v0 + 4)) (Int32.toNatClampNeg 0) (Int32.toNatClampNeg 0) (Int32.toNatClampNeg 6))) (v0 + 5)) (Int32.toNatClampNeg 0) (Int32.toNatClampNeg 0) (Int32.toNatClampNeg 6))))) (R_172_86 v0 v1))
set_option maxRecDepth 100000 in
theorem r_172_0 {X : GX} {d : Nat} {r : Int32 × Hp} (hd : 2 ≤ d) (hq : RtX X none r.2) {h : Hp} {v0 : Nat} {v1 : Nat} (e : R_172_0 v0 v1 h = some r) : G X d 172 0 [some (.ref v0), some (.ref v1)] [] h := by
  unfold R_172_0 at e
  have g := gd_s e; clear e; obtain ⟨⟨o0, o1, o3, o4, o5, o6, o7, o8, o9, o10, o11, o12, o13⟩, e⟩ := g
  obtain ⟨x, h2, e1, e2⟩ := bndV_s e
  refine k_172_0 o0 o1 (by omega) o3 o4 o5 o6 o7 o8 o9 o10 o11 o12 o13 (by omega) (t_78 e1) ?_
  rintro _ rfl
  exact r_172_86 hd hq e2
noncomputable def S_172 (v0 : Nat) (v1 : Nat) (h : Hp) : Option (Int32 × Hp) := R_172_0 v0 v1 h
set_option maxRecDepth 100000 in
theorem t_172 {v0 : Nat} {v1 : Nat} {h : Hp} {r : Int32 × Hp} (e : S_172 v0 v1 h = some r) : CV 2 172 [.ref v0, .ref v1] h (fun g => g = r.2) := by
  refine C.of mo_172 (Nat.le_of_ble_eq_true rfl) (fun X hq => ?_)
  exact r_172_0 (Nat.le_refl _) (hq _ _ ⟨rfl, rfl⟩) e
/-! 173 PlayedTruth$Strangers.copyFrom(LPlayedTruth$Strangers;)V -/
noncomputable def R_173_0 (v0 : Nat) (v1 : Nat) (h : Hp) : Option (Int32 × Hp) := gd (sh v1 = (1, 7) ∧ sh v0 = (1, 7) ∧ sh (v1 + 1) = (0, 6) ∧ sh (v0 + 1) = (0, 6) ∧ sh (v1 + 2) = (0, 6) ∧ sh (v0 + 2) = (0, 6) ∧ sh (v1 + 3) = (0, 6) ∧ sh (v0 + 3) = (0, 6) ∧ sh (v1 + 4) = (0, 6) ∧ sh (v0 + 4) = (0, 6)) (some (0, (wr (wrA (wrA (wrA (wrA h (v0 + 1) (va_cpy (h (v1 + 1)) (h (v0 + 1)) (Int32.toNatClampNeg 0) (Int32.toNatClampNeg 0) (Int32.toNatClampNeg 6))) (v0 + 2) (va_cpy ((wrA h (v0 + 1) (va_cpy (h (v1 + 1)) (h (v0 + 1)) (Int32.toNatClampNeg 0) (Int32.toNatClampNeg 0) (Int32.toNatClampNeg 6))) (v1 + 2)) ((wrA h (v0 + 1) (va_cpy (h (v1 + 1)) (h (v0 + 1)) (Int32.toNatClampNeg 0) (Int32.toNatClampNeg 0) (Int32.toNatClampNeg 6))) (v0 + 2)) (Int32.toNatClampNeg 0) (Int32.toNatClampNeg 0) (Int32.toNatClampNeg 6))) (v0 + 3) (va_cpy ((wrA (wrA h (v0 + 1) (va_cpy (h (v1 + 1)) (h (v0 + 1)) (Int32.toNatClampNeg 0) (Int32.toNatClampNeg 0) (Int32.toNatClampNeg 6))) (v0 + 2) (va_cpy ((wrA h (v0 + 1) (va_cpy (h (v1 + 1)) (h (v0 + 1)) (Int32.toNatClampNeg 0) (Int32.toNatClampNeg 0) (Int32.toNatClampNeg 6))) (v1 + 2)) ((wrA h (v0 + 1) (va_cpy (h (v1 + 1)) (h (v0 + 1)) (Int32.toNatClampNeg 0) (Int32.toNatClampNeg 0) (Int32.toNatClampNeg 6))) (v0 + 2)) (Int32.toNatClampNeg 0) (Int32.toNatClampNeg 0) (Int32.toNatClampNeg 6))) (v1 + 3)) ((wrA (wrA h (v0 + 1) (va_cpy (h (v1 + 1)) (h (v0 + 1)) (Int32.toNatClampNeg 0) (Int32.toNatClampNeg 0) (Int32.toNatClampNeg 6))) (v0 + 2) (va_cpy ((wrA h (v0 + 1) (va_cpy (h (v1 + 1)) (h (v0 + 1)) (Int32.toNatClampNeg 0) (Int32.toNatClampNeg 0) (Int32.toNatClampNeg 6))) (v1 + 2)) ((wrA h (v0 + 1) (va_cpy (h (v1 + 1)) (h (v0 + 1)) (Int32.toNatClampNeg 0) (Int32.toNatClampNeg 0) (Int32.toNatClampNeg 6))) (v0 + 2)) (Int32.toNatClampNeg 0) (Int32.toNatClampNeg 0) (Int32.toNatClampNeg 6))) (v0 + 3)) (Int32.toNatClampNeg 0) (Int32.toNatClampNeg 0) (Int32.toNatClampNeg 6))) (v0 + 4) (va_cpy ((wrA (wrA (wrA h (v0 + 1) (va_cpy (h (v1 + 1)) (h (v0 + 1)) (Int32.toNatClampNeg 0) (Int32.toNatClampNeg 0) (Int32.toNatClampNeg 6))) (v0 + 2) (va_cpy ((wrA h (v0 + 1) (va_cpy (h (v1 + 1)) (h (v0 + 1)) (Int32.toNatClampNeg 0) (Int32.toNatClampNeg 0) (Int32.toNatClampNeg 6))) (v1 + 2)) ((wrA h (v0 + 1) (va_cpy (h (v1 + 1)) (h (v0 + 1)) (Int32.toNatClampNeg 0) (Int32.toNatClampNeg 0) (Int32.toNatClampNeg 6))) (v0 + 2)) (Int32.toNatClampNeg 0) (Int32.toNatClampNeg 0) (Int32.toNatClampNeg 6))) (v0 + 3) (va_cpy ((wrA (wrA h (v0 + 1) (va_cpy (h (v1 + 1)) (h (v0 + 1)) (Int32.toNatClampNeg 0) (Int32.toNatClampNeg 0) (Int32.toNatClampNeg 6))) (v0 + 2) (va_cpy ((wrA h (v0 + 1) (va_cpy (h (v1 + 1)) (h (v0 + 1)) (Int32.toNatClampNeg 0) (Int32.toNatClampNeg 0) (Int32.toNatClampNeg 6))) (v1 + 2)) ((wrA h (v0 + 1) (va_cpy (h (v1 + 1)) (h (v0 + 1)) (Int32.toNatClampNeg 0) (Int32.toNatClampNeg 0) (Int32.toNatClampNeg 6))) (v0 + 2)) (Int32.toNatClampNeg 0) (Int32.toNatClampNeg 0) (Int32.toNatClampNeg 6))) (v1 + 3)) ((wrA (wrA h (v0 + 1) (va_cpy (h (v1 + 1)) (h (v0 + 1)) (Int32.toNatClampNeg 0) (Int32.toNatClampNeg 0) (Int32.toNatClampNeg 6))) (v0 + 2) (va_cpy ((wrA h (v0 + 1) (va_cpy (h (v1 + 1)) (h (v0 + 1)) (Int32.toNatClampNeg 0) (Int32.toNatClampNeg 0) (Int32.toNatClampNeg 6))) (v1 + 2)) ((wrA h (v0 + 1) (va_cpy (h (v1 + 1)) (h (v0 + 1)) (Int32.toNatClampNeg 0) (Int32.toNatClampNeg 0) (Int32.toNatClampNeg 6))) (v0 + 2)) (Int32.toNatClampNeg 0) (Int32.toNatClampNeg 0) (Int32.toNatClampNeg 6))) (v0 + 3)) (Int32.toNatClampNeg 0) (Int32.toNatClampNeg 0) (Int32.toNatClampNeg 6))) (v1 + 4)) ((wrA (wrA (wrA h (v0 + 1) (va_cpy (h (v1 + 1)) (h (v0 + 1)) (Int32.toNatClampNeg 0) (Int32.toNatClampNeg 0) (Int32.toNatClampNeg 6))) (v0 + 2) (va_cpy ((wrA h (v0 + 1) (va_cpy (h (v1 + 1)) (h (v0 + 1)) (Int32.toNatClampNeg 0) (Int32.toNatClampNeg 0) (Int32.toNatClampNeg 6))) (v1 + 2)) ((wrA h (v0 + 1) (va_cpy (h (v1 + 1)) (h (v0 + 1)) (Int32.toNatClampNeg 0) (Int32.toNatClampNeg 0) (Int32.toNatClampNeg 6))) (v0 + 2)) (Int32.toNatClampNeg 0) (Int32.toNatClampNeg 0) (Int32.toNatClampNeg 6))) (v0 + 3) (va_cpy ((wrA (wrA h (v0 + 1) (va_cpy (h (v1 + 1)) (h (v0 + 1)) (Int32.toNatClampNeg 0) (Int32.toNatClampNeg 0) (Int32.toNatClampNeg 6))) (v0 + 2) (va_cpy ((wrA h (v0 + 1) (va_cpy (h (v1 + 1)) (h (v0 + 1)) (Int32.toNatClampNeg 0) (Int32.toNatClampNeg 0) (Int32.toNatClampNeg 6))) (v1 + 2)) ((wrA h (v0 + 1) (va_cpy (h (v1 + 1)) (h (v0 + 1)) (Int32.toNatClampNeg 0) (Int32.toNatClampNeg 0) (Int32.toNatClampNeg 6))) (v0 + 2)) (Int32.toNatClampNeg 0) (Int32.toNatClampNeg 0) (Int32.toNatClampNeg 6))) (v1 + 3)) ((wrA (wrA h (v0 + 1) (va_cpy (h (v1 + 1)) (h (v0 + 1)) (Int32.toNatClampNeg 0) (Int32.toNatClampNeg 0) (Int32.toNatClampNeg 6))) (v0 + 2) (va_cpy ((wrA h (v0 + 1) (va_cpy (h (v1 + 1)) (h (v0 + 1)) (Int32.toNatClampNeg 0) (Int32.toNatClampNeg 0) (Int32.toNatClampNeg 6))) (v1 + 2)) ((wrA h (v0 + 1) (va_cpy (h (v1 + 1)) (h (v0 + 1)) (Int32.toNatClampNeg 0) (Int32.toNatClampNeg 0) (Int32.toNatClampNeg 6))) (v0 + 2)) (Int32.toNatClampNeg 0) (Int32.toNatClampNeg 0) (Int32.toNatClampNeg 6))) (v0 + 3)) (Int32.toNatClampNeg 0) (Int32.toNatClampNeg 0) (Int32.toNatClampNeg 6))) (v0 + 4)) (Int32.toNatClampNeg 0) (Int32.toNatClampNeg 0) (Int32.toNatClampNeg 6))) v0 4 ((wrA (wrA (wrA (wrA h (v0 + 1) (va_cpy (h (v1 + 1)) (h (v0 + 1)) (Int32.toNatClampNeg 0) (Int32.toNatClampNeg 0) (Int32.toNatClampNeg 6))) (v0 + 2) (va_cpy ((wrA h (v0 + 1) (va_cpy (h (v1 + 1)) (h (v0 + 1)) (Int32.toNatClampNeg 0) (Int32.toNatClampNeg 0) (Int32.toNatClampNeg 6))) (v1 + 2)) ((wrA h (v0 + 1) (va_cpy (h (v1 + 1)) (h (v0 + 1)) (Int32.toNatClampNeg 0) (Int32.toNatClampNeg 0) (Int32.toNatClampNeg 6))) (v0 + 2)) (Int32.toNatClampNeg 0) (Int32.toNatClampNeg 0) (Int32.toNatClampNeg 6))) (v0 + 3) (va_cpy ((wrA (wrA h (v0 + 1) (va_cpy (h (v1 + 1)) (h (v0 + 1)) (Int32.toNatClampNeg 0) (Int32.toNatClampNeg 0) (Int32.toNatClampNeg 6))) (v0 + 2) (va_cpy ((wrA h (v0 + 1) (va_cpy (h (v1 + 1)) (h (v0 + 1)) (Int32.toNatClampNeg 0) (Int32.toNatClampNeg 0) (Int32.toNatClampNeg 6))) (v1 + 2)) ((wrA h (v0 + 1) (va_cpy (h (v1 + 1)) (h (v0 + 1)) (Int32.toNatClampNeg 0) (Int32.toNatClampNeg 0) (Int32.toNatClampNeg 6))) (v0 + 2)) (Int32.toNatClampNeg 0) (Int32.toNatClampNeg 0) (Int32.toNatClampNeg 6))) (v1 + 3)) ((wrA (wrA h (v0 + 1) (va_cpy (h (v1 + 1)) (h (v0 + 1)) (Int32.toNatClampNeg 0) (Int32.toNatClampNeg 0) (Int32.toNatClampNeg 6))) (v0 + 2) (va_cpy ((wrA h (v0 + 1) (va_cpy (h (v1 + 1)) (h (v0 + 1)) (Int32.toNatClampNeg 0) (Int32.toNatClampNeg 0) (Int32.toNatClampNeg 6))) (v1 + 2)) ((wrA h (v0 + 1) (va_cpy (h (v1 + 1)) (h (v0 + 1)) (Int32.toNatClampNeg 0) (Int32.toNatClampNeg 0) (Int32.toNatClampNeg 6))) (v0 + 2)) (Int32.toNatClampNeg 0) (Int32.toNatClampNeg 0) (Int32.toNatClampNeg 6))) (v0 + 3)) (Int32.toNatClampNeg 0) (Int32.toNatClampNeg 0) (Int32.toNatClampNeg 6))) (v0 + 4) (va_cpy ((wrA (wrA (wrA h (v0 + 1) (va_cpy (h (v1 + 1)) (h (v0 + 1)) (Int32.toNatClampNeg 0) (Int32.toNatClampNeg 0) (Int32.toNatClampNeg 6))) (v0 + 2) (va_cpy ((wrA h (v0 + 1) (va_cpy (h (v1 + 1)) (h (v0 + 1)) (Int32.toNatClampNeg 0) (Int32.toNatClampNeg 0) (Int32.toNatClampNeg 6))) (v1 + 2)) ((wrA h (v0 + 1) (va_cpy (h (v1 + 1)) (h (v0 + 1)) (Int32.toNatClampNeg 0) (Int32.toNatClampNeg 0) (Int32.toNatClampNeg 6))) (v0 + 2)) (Int32.toNatClampNeg 0) (Int32.toNatClampNeg 0) (Int32.toNatClampNeg 6))) (v0 + 3) (va_cpy ((wrA (wrA h (v0 + 1) (va_cpy (h (v1 + 1)) (h (v0 + 1)) (Int32.toNatClampNeg 0) (Int32.toNatClampNeg 0) (Int32.toNatClampNeg 6))) (v0 + 2) (va_cpy ((wrA h (v0 + 1) (va_cpy (h (v1 + 1)) (h (v0 + 1)) (Int32.toNatClampNeg 0) (Int32.toNatClampNeg 0) (Int32.toNatClampNeg 6))) (v1 + 2)) ((wrA h (v0 + 1) (va_cpy (h (v1 + 1)) (h (v0 + 1)) (Int32.toNatClampNeg 0) (Int32.toNatClampNeg 0) (Int32.toNatClampNeg 6))) (v0 + 2)) (Int32.toNatClampNeg 0) (Int32.toNatClampNeg 0) (Int32.toNatClampNeg 6))) (v1 + 3)) ((wrA (wrA h (v0 + 1) (va_cpy (h (v1 + 1)) (h (v0 + 1)) (Int32.toNatClampNeg 0) (Int32.toNatClampNeg 0) (Int32.toNatClampNeg 6))) (v0 + 2) (va_cpy ((wrA h (v0 + 1) (va_cpy (h (v1 + 1)) (h (v0 + 1)) (Int32.toNatClampNeg 0) (Int32.toNatClampNeg 0) (Int32.toNatClampNeg 6))) (v1 + 2)) ((wrA h (v0 + 1) (va_cpy (h (v1 + 1)) (h (v0 + 1)) (Int32.toNatClampNeg 0) (Int32.toNatClampNeg 0) (Int32.toNatClampNeg 6))) (v0 + 2)) (Int32.toNatClampNeg 0) (Int32.toNatClampNeg 0) (Int32.toNatClampNeg 6))) (v0 + 3)) (Int32.toNatClampNeg 0) (Int32.toNatClampNeg 0) (Int32.toNatClampNeg 6))) (v1 + 4)) ((wrA (wrA (wrA h (v0 + 1) (va_cpy (h (v1 + 1)) (h (v0 + 1)) (Int32.toNatClampNeg 0) (Int32.toNatClampNeg 0) (Int32.toNatClampNeg 6))) (v0 + 2) (va_cpy ((wrA h (v0 + 1) (va_cpy (h (v1 + 1)) (h (v0 + 1)) (Int32.toNatClampNeg 0) (Int32.toNatClampNeg 0) (Int32.toNatClampNeg 6))) (v1 + 2)) ((wrA h (v0 + 1) (va_cpy (h (v1 + 1)) (h (v0 + 1)) (Int32.toNatClampNeg 0) (Int32.toNatClampNeg 0) (Int32.toNatClampNeg 6))) (v0 + 2)) (Int32.toNatClampNeg 0) (Int32.toNatClampNeg 0) (Int32.toNatClampNeg 6))) (v0 + 3) (va_cpy ((wrA (wrA h (v0 + 1) (va_cpy (h (v1 + 1)) (h (v0 + 1)) (Int32.toNatClampNeg 0) (Int32.toNatClampNeg 0) (Int32.toNatClampNeg 6))) (v0 + 2) (va_cpy ((wrA h (v0 + 1) (va_cpy (h (v1 + 1)) (h (v0 + 1)) (Int32.toNatClampNeg 0) (Int32.toNatClampNeg 0) (Int32.toNatClampNeg 6))) (v1 + 2)) ((wrA h (v0 + 1) (va_cpy (h (v1 + 1)) (h (v0 + 1)) (Int32.toNatClampNeg 0) (Int32.toNatClampNeg 0) (Int32.toNatClampNeg 6))) (v0 + 2)) (Int32.toNatClampNeg 0) (Int32.toNatClampNeg 0) (Int32.toNatClampNeg 6))) (v1 + 3)) ((wrA (wrA h (v0 + 1) (va_cpy (h (v1 + 1)) (h (v0 + 1)) (Int32.toNatClampNeg 0) (Int32.toNatClampNeg 0) (Int32.toNatClampNeg 6))) (v0 + 2) (va_cpy ((wrA h (v0 + 1) (va_cpy (h (v1 + 1)) (h (v0 + 1)) (Int32.toNatClampNeg 0) (Int32.toNatClampNeg 0) (Int32.toNatClampNeg 6))) (v1 + 2)) ((wrA h (v0 + 1) (va_cpy (h (v1 + 1)) (h (v0 + 1)) (Int32.toNatClampNeg 0) (Int32.toNatClampNeg 0) (Int32.toNatClampNeg 6))) (v0 + 2)) (Int32.toNatClampNeg 0) (Int32.toNatClampNeg 0) (Int32.toNatClampNeg 6))) (v0 + 3)) (Int32.toNatClampNeg 0) (Int32.toNatClampNeg 0) (Int32.toNatClampNeg 6))) (v0 + 4)) (Int32.toNatClampNeg 0) (Int32.toNatClampNeg 0) (Int32.toNatClampNeg 6))) v1 4))))
set_option maxRecDepth 100000 in
theorem r_173_0 {X : GX} {d : Nat} {r : Int32 × Hp} (hd : 1 ≤ d) (hq : RtX X none r.2) {h : Hp} {v0 : Nat} {v1 : Nat} (e : R_173_0 v0 v1 h = some r) : G X d 173 0 [some (.ref v0), some (.ref v1)] [] h := by
  unfold R_173_0 at e
  have g := gd_s e; clear e; obtain ⟨⟨o0, o1, o3, o4, o5, o6, o7, o8, o9, o10⟩, e⟩ := g
  rw [← Option.some.inj e] at hq
  exact k_173_0 o0 o1 (by omega) o3 o4 o5 o6 o7 o8 o9 o10 hq
noncomputable def S_173 (v0 : Nat) (v1 : Nat) (h : Hp) : Option (Int32 × Hp) := R_173_0 v0 v1 h
set_option maxRecDepth 100000 in
theorem t_173 {v0 : Nat} {v1 : Nat} {h : Hp} {r : Int32 × Hp} (e : S_173 v0 v1 h = some r) : CV 1 173 [.ref v0, .ref v1] h (fun g => g = r.2) := by
  refine C.of mo_173 (Nat.le_of_ble_eq_true rfl) (fun X hq => ?_)
  exact r_173_0 (Nat.le_refl _) (hq _ _ ⟨rfl, rfl⟩) e
/-! 171 PlayedTruth.keep()I -/
noncomputable def R_171_33 (h : Hp) : Option (Int32 × Hp) := some (1, (wr h 0 12 1))
theorem r_171_33 {X : GX} {d : Nat} {r : Int32 × Hp} (hd : 3 ≤ d) (hq : RtX X (some (.int r.1)) r.2) {h : Hp} (e : R_171_33 h = some r) : G X d 171 33 [some (.ref 0)] [] h := by
  unfold R_171_33 at e
  rw [← Option.some.inj e] at hq
  exact k_171_33 hq
noncomputable def R_171_22 (h : Hp) : Option (Int32 × Hp) := bndV (S_173 79 16 h) (R_171_33)
theorem r_171_22 {X : GX} {d : Nat} {r : Int32 × Hp} (hd : 3 ≤ d) (hq : RtX X (some (.int r.1)) r.2) {h : Hp} (e : R_171_22 h = some r) : G X d 171 22 [some (.ref 0)] [] h := by
  unfold R_171_22 at e
  obtain ⟨x, h2, e1, e2⟩ := bndV_s e
  refine k_171_22 (by omega) (t_173 e1) ?_
  rintro _ rfl
  exact r_171_33 hd hq e2
noncomputable def R_171_11 (h : Hp) : Option (Int32 × Hp) := bndV (S_88 76 13 h) (R_171_22)
theorem r_171_11 {X : GX} {d : Nat} {r : Int32 × Hp} (hd : 3 ≤ d) (hq : RtX X (some (.int r.1)) r.2) {h : Hp} (e : R_171_11 h = some r) : G X d 171 11 [some (.ref 0)] [] h := by
  unfold R_171_11 at e
  obtain ⟨x, h2, e1, e2⟩ := bndV_s e
  refine k_171_11 (by omega) (t_88 e1) ?_
  rintro _ rfl
  exact r_171_22 hd hq e2
noncomputable def R_171_0 (h : Hp) : Option (Int32 × Hp) := bndV (S_172 64 1 h) (R_171_11)
theorem r_171_0 {X : GX} {d : Nat} {r : Int32 × Hp} (hd : 3 ≤ d) (hq : RtX X (some (.int r.1)) r.2) {h : Hp} (e : R_171_0 h = some r) : G X d 171 0 [some (.ref 0)] [] h := by
  unfold R_171_0 at e
  obtain ⟨x, h2, e1, e2⟩ := bndV_s e
  refine k_171_0 (by omega) (t_172 e1) ?_
  rintro _ rfl
  exact r_171_11 hd hq e2
noncomputable def S_171 (h : Hp) : Option (Int32 × Hp) := R_171_0 h
set_option maxRecDepth 100000 in
theorem t_171 {h : Hp} {r : Int32 × Hp} (e : S_171 h = some r) : CI 3 171 [.ref 0] h (fun x g => x = r.1 ∧ g = r.2) := by
  refine C.of mo_171 (Nat.le_of_ble_eq_true rfl) (fun X hq => ?_)
  exact r_171_0 (Nat.le_refl _) (hq _ _ ⟨_, rfl, rfl, rfl⟩) e
/-! 174 PlayedTruth.again()I -/
noncomputable def R_174_43 (h : Hp) : Option (Int32 × Hp) := some ((h 1 7), h)
theorem r_174_43 {X : GX} {d : Nat} {r : Int32 × Hp} (hd : 3 ≤ d) (hq : RtX X (some (.int r.1)) r.2) {h : Hp} (e : R_174_43 h = some r) : G X d 174 43 [some (.ref 0)] [] h := by
  unfold R_174_43 at e
  rw [← Option.some.inj e] at hq
  exact k_174_43 hq
noncomputable def R_174_32 (h : Hp) : Option (Int32 × Hp) := bndV (S_173 16 79 h) (R_174_43)
theorem r_174_32 {X : GX} {d : Nat} {r : Int32 × Hp} (hd : 3 ≤ d) (hq : RtX X (some (.int r.1)) r.2) {h : Hp} (e : R_174_32 h = some r) : G X d 174 32 [some (.ref 0)] [] h := by
  unfold R_174_32 at e
  obtain ⟨x, h2, e1, e2⟩ := bndV_s e
  refine k_174_32 (by omega) (t_173 e1) ?_
  rintro _ rfl
  exact r_174_43 hd hq e2
noncomputable def R_174_21 (h : Hp) : Option (Int32 × Hp) := bndV (S_88 13 76 h) (R_174_32)
theorem r_174_21 {X : GX} {d : Nat} {r : Int32 × Hp} (hd : 3 ≤ d) (hq : RtX X (some (.int r.1)) r.2) {h : Hp} (e : R_174_21 h = some r) : G X d 174 21 [some (.ref 0)] [] h := by
  unfold R_174_21 at e
  obtain ⟨x, h2, e1, e2⟩ := bndV_s e
  refine k_174_21 (by omega) (t_88 e1) ?_
  rintro _ rfl
  exact r_174_32 hd hq e2
noncomputable def R_174_10 (h : Hp) : Option (Int32 × Hp) := bndV (S_172 1 64 h) (R_174_21)
theorem r_174_10 {X : GX} {d : Nat} {r : Int32 × Hp} (hd : 3 ≤ d) (hq : RtX X (some (.int r.1)) r.2) {h : Hp} (e : R_174_10 h = some r) : G X d 174 10 [some (.ref 0)] [] h := by
  unfold R_174_10 at e
  obtain ⟨x, h2, e1, e2⟩ := bndV_s e
  refine k_174_10 (by omega) (t_172 e1) ?_
  rintro _ rfl
  exact r_174_21 hd hq e2
noncomputable def R_174_7 (h : Hp) : Option (Int32 × Hp) := some (((-3)), h)
theorem r_174_7 {X : GX} {d : Nat} {r : Int32 × Hp} (hd : 3 ≤ d) (hq : RtX X (some (.int r.1)) r.2) {h : Hp} (e : R_174_7 h = some r) : G X d 174 7 [none] [] h := by
  unfold R_174_7 at e
  rw [← Option.some.inj e] at hq
  exact k_174_7 hq
noncomputable def R_174_0 (h : Hp) : Option (Int32 × Hp) := if (h 0 12) = 0 then R_174_7 h else R_174_10 h
theorem r_174_0 {X : GX} {d : Nat} {r : Int32 × Hp} (hd : 3 ≤ d) (hq : RtX X (some (.int r.1)) r.2) {h : Hp} (e : R_174_0 h = some r) : G X d 174 0 [some (.ref 0)] [] h := by
  unfold R_174_0 at e
  refine k_174_0 (fun c => ?_) (fun c => ?_)
  · rw [if_neg c] at e; exact r_174_10 hd hq e
  · rw [if_pos c] at e; exact r_174_7 hd hq e
noncomputable def S_174 (h : Hp) : Option (Int32 × Hp) := R_174_0 h
set_option maxRecDepth 100000 in
theorem t_174 {h : Hp} {r : Int32 × Hp} (e : S_174 h = some r) : CI 3 174 [.ref 0] h (fun x g => x = r.1 ∧ g = r.2) := by
  refine C.of mo_174 (Nat.le_of_ble_eq_true rfl) (fun X hq => ?_)
  exact r_174_0 (Nat.le_refl _) (hq _ _ ⟨_, rfl, rfl, rfl⟩) e
/-! 177 PlayedTruthModel.in(JJJ)Z -/
noncomputable def R_177_17 (h : Hp) : Option (Int32 × Hp) := some (0, h)
theorem r_177_17 {X : GX} {d : Nat} {r : Int32 × Hp} (hd : 1 ≤ d) (hq : RtX X (some (.int r.1)) r.2) {h : Hp} (e : R_177_17 h = some r) : G X d 177 17 [none, none, none, none, none, none] [] h := by
  unfold R_177_17 at e
  rw [← Option.some.inj e] at hq
  exact k_177_17 hq
noncomputable def R_177_13 (h : Hp) : Option (Int32 × Hp) := some (1, h)
theorem r_177_13 {X : GX} {d : Nat} {r : Int32 × Hp} (hd : 1 ≤ d) (hq : RtX X (some (.int r.1)) r.2) {h : Hp} (e : R_177_13 h = some r) : G X d 177 13 [none, none, none, none, none, none] [] h := by
  unfold R_177_13 at e
  rw [← Option.some.inj e] at hq
  exact k_177_13 hq
noncomputable def R_177_6 (v0 : Int64) (v4 : Int64) (h : Hp) : Option (Int32 × Hp) := if 0 < (lg_cmp v0 v4) then R_177_17 h else R_177_13 h
theorem r_177_6 {X : GX} {d : Nat} {r : Int32 × Hp} (hd : 1 ≤ d) (hq : RtX X (some (.int r.1)) r.2) {h : Hp} {v0 : Int64} {v4 : Int64} (e : R_177_6 v0 v4 h = some r) : G X d 177 6 [some (.long v0), none, none, none, some (.long v4), none] [] h := by
  unfold R_177_6 at e
  refine k_177_6 (fun c => ?_) (fun c => ?_)
  · rw [if_pos c] at e; exact r_177_17 hd hq e
  · rw [if_neg c] at e; exact r_177_13 hd hq e
noncomputable def R_177_0 (v0 : Int64) (v2 : Int64) (v4 : Int64) (h : Hp) : Option (Int32 × Hp) := if (lg_cmp v0 v2) < 0 then R_177_17 h else R_177_6 v0 v4 h
theorem r_177_0 {X : GX} {d : Nat} {r : Int32 × Hp} (hd : 1 ≤ d) (hq : RtX X (some (.int r.1)) r.2) {h : Hp} {v0 : Int64} {v2 : Int64} {v4 : Int64} (e : R_177_0 v0 v2 v4 h = some r) : G X d 177 0 [some (.long v0), none, some (.long v2), none, some (.long v4), none] [] h := by
  unfold R_177_0 at e
  refine k_177_0 (fun c => ?_) (fun c => ?_)
  · rw [if_pos c] at e; exact r_177_17 hd hq e
  · rw [if_neg c] at e; exact r_177_6 hd hq e
noncomputable def S_177 (v0 : Int64) (v2 : Int64) (v4 : Int64) (h : Hp) : Option (Int32 × Hp) := R_177_0 v0 v2 v4 h
set_option maxRecDepth 100000 in
theorem t_177 {v0 : Int64} {v2 : Int64} {v4 : Int64} {h : Hp} {r : Int32 × Hp} (e : S_177 v0 v2 v4 h = some r) : CI 1 177 [.long v0, .long v2, .long v4] h (fun x g => x = r.1 ∧ g = r.2) := by
  refine C.of mo_177 (Nat.le_of_ble_eq_true rfl) (fun X hq => ?_)
  exact r_177_0 (Nat.le_refl _) (hq _ _ ⟨_, rfl, rfl, rfl⟩) e
/-! 178 PlayedTruthModel.sets(III)V -/
noncomputable def R_178_0 (v1 : Int32) (v2 : Int32) (v3 : Int32) (h : Hp) : Option (Int32 × Hp) := gd (IA 85 ((35 + (5 * v1)) + v2)) (some (0, (wr h 85 (Int32.toNatClampNeg ((35 + (5 * v1)) + v2)) v3)))
theorem r_178_0 {X : GX} {d : Nat} {r : Int32 × Hp} (hd : 1 ≤ d) (hq : RtX X none r.2) {h : Hp} {v1 : Int32} {v2 : Int32} {v3 : Int32} (e : R_178_0 v1 v2 v3 h = some r) : G X d 178 0 [some (.ref 84), some (.int v1), some (.int v2), some (.int v3)] [] h := by
  unfold R_178_0 at e
  have g := gd_s e; clear e; obtain ⟨b0, e⟩ := g
  rw [← Option.some.inj e] at hq
  exact k_178_0 b0 hq
noncomputable def S_178 (v1 : Int32) (v2 : Int32) (v3 : Int32) (h : Hp) : Option (Int32 × Hp) := R_178_0 v1 v2 v3 h
set_option maxRecDepth 100000 in
theorem t_178 {v1 : Int32} {v2 : Int32} {v3 : Int32} {h : Hp} {r : Int32 × Hp} (e : S_178 v1 v2 v3 h = some r) : CV 1 178 [.ref 84, .int v1, .int v2, .int v3] h (fun g => g = r.2) := by
  refine C.of mo_178 (Nat.le_of_ble_eq_true rfl) (fun X hq => ?_)
  exact r_178_0 (Nat.le_refl _) (hq _ _ ⟨rfl, rfl⟩) e
/-! 176 PlayedTruthModel.scene(IIII)I -/
noncomputable def R_176_49 (h : Hp) : Option (Int32 × Hp) := some (((-1)), h)
theorem r_176_49 {X : GX} {d : Nat} {r : Int32 × Hp} (hd : 2 ≤ d) (hq : RtX X (some (.int r.1)) r.2) {h : Hp} (e : R_176_49 h = some r) : G X d 176 49 [none, none, none, none, none, none] [] h := by
  unfold R_176_49 at e
  rw [← Option.some.inj e] at hq
  exact k_176_49 hq
noncomputable def R_176_114 (v5 : Int32) (h : Hp) : Option (Int32 × Hp) := gd (IA 85 0) (some (v5, (wr h 85 (Int32.toNatClampNeg 0) ((h 85 (Int32.toNatClampNeg 0)) + 1))))
theorem r_176_114 {X : GX} {d : Nat} {r : Int32 × Hp} (hd : 2 ≤ d) (hq : RtX X (some (.int r.1)) r.2) {h : Hp} {v5 : Int32} (e : R_176_114 v5 h = some r) : G X d 176 114 [some (.ref 84), none, none, none, none, some (.int v5)] [] h := by
  unfold R_176_114 at e
  have g := gd_s e; clear e; obtain ⟨b0, e⟩ := g
  rw [← Option.some.inj e] at hq
  exact k_176_114 b0 hq
noncomputable def R_176_106 (v5 : Int32) (h : Hp) : Option (Int32 × Hp) := bndV (S_178 v5 4 0 h) (R_176_114 v5)
theorem r_176_106 {X : GX} {d : Nat} {r : Int32 × Hp} (hd : 2 ≤ d) (hq : RtX X (some (.int r.1)) r.2) {h : Hp} {v5 : Int32} (e : R_176_106 v5 h = some r) : G X d 176 106 [some (.ref 84), none, none, none, none, some (.int v5)] [] h := by
  unfold R_176_106 at e
  obtain ⟨x, h2, e1, e2⟩ := bndV_s e
  refine k_176_106 (by omega) (t_178 e1) ?_
  rintro _ rfl
  exact r_176_114 hd hq e2
noncomputable def R_176_97 (v4 : Int32) (v5 : Int32) (h : Hp) : Option (Int32 × Hp) := bndV (S_178 v5 3 v4 h) (R_176_106 v5)
theorem r_176_97 {X : GX} {d : Nat} {r : Int32 × Hp} (hd : 2 ≤ d) (hq : RtX X (some (.int r.1)) r.2) {h : Hp} {v4 : Int32} {v5 : Int32} (e : R_176_97 v4 v5 h = some r) : G X d 176 97 [some (.ref 84), none, none, none, some (.int v4), some (.int v5)] [] h := by
  unfold R_176_97 at e
  obtain ⟨x, h2, e1, e2⟩ := bndV_s e
  refine k_176_97 (by omega) (t_178 e1) ?_
  rintro _ rfl
  exact r_176_106 hd hq e2
noncomputable def R_176_89 (v3 : Int32) (v4 : Int32) (v5 : Int32) (h : Hp) : Option (Int32 × Hp) := bndV (S_178 v5 2 v3 h) (R_176_97 v4 v5)
theorem r_176_89 {X : GX} {d : Nat} {r : Int32 × Hp} (hd : 2 ≤ d) (hq : RtX X (some (.int r.1)) r.2) {h : Hp} {v3 : Int32} {v4 : Int32} {v5 : Int32} (e : R_176_89 v3 v4 v5 h = some r) : G X d 176 89 [some (.ref 84), none, none, some (.int v3), some (.int v4), some (.int v5)] [] h := by
  unfold R_176_89 at e
  obtain ⟨x, h2, e1, e2⟩ := bndV_s e
  refine k_176_89 (by omega) (t_178 e1) ?_
  rintro _ rfl
  exact r_176_97 hd hq e2
noncomputable def R_176_81 (v2 : Int32) (v3 : Int32) (v4 : Int32) (v5 : Int32) (h : Hp) : Option (Int32 × Hp) := bndV (S_178 v5 1 v2 h) (R_176_89 v3 v4 v5)
theorem r_176_81 {X : GX} {d : Nat} {r : Int32 × Hp} (hd : 2 ≤ d) (hq : RtX X (some (.int r.1)) r.2) {h : Hp} {v2 : Int32} {v3 : Int32} {v4 : Int32} {v5 : Int32} (e : R_176_81 v2 v3 v4 v5 h = some r) : G X d 176 81 [some (.ref 84), none, some (.int v2), some (.int v3), some (.int v4), some (.int v5)] [] h := by
  unfold R_176_81 at e
  obtain ⟨x, h2, e1, e2⟩ := bndV_s e
  refine k_176_81 (by omega) (t_178 e1) ?_
  rintro _ rfl
  exact r_176_89 hd hq e2
noncomputable def R_176_65 (v1 : Int32) (v2 : Int32) (v3 : Int32) (v4 : Int32) (h : Hp) : Option (Int32 × Hp) := gd (IA 85 0) (bndV (S_178 (h 85 (Int32.toNatClampNeg 0)) 0 v1 h) (R_176_81 v2 v3 v4 (h 85 (Int32.toNatClampNeg 0))))
theorem r_176_65 {X : GX} {d : Nat} {r : Int32 × Hp} (hd : 2 ≤ d) (hq : RtX X (some (.int r.1)) r.2) {h : Hp} {v1 : Int32} {v2 : Int32} {v3 : Int32} {v4 : Int32} (e : R_176_65 v1 v2 v3 v4 h = some r) : G X d 176 65 [some (.ref 84), some (.int v1), some (.int v2), some (.int v3), some (.int v4), none] [] h := by
  unfold R_176_65 at e
  have g := gd_s e; clear e; obtain ⟨b0, e⟩ := g
  obtain ⟨x, h2, e1, e2⟩ := bndV_s e
  refine k_176_65 b0 (by omega) (t_178 e1) ?_
  rintro _ rfl
  exact r_176_81 hd hq e2
noncomputable def R_176_62 (h : Hp) : Option (Int32 × Hp) := some (((-2)), h)
theorem r_176_62 {X : GX} {d : Nat} {r : Int32 × Hp} (hd : 2 ≤ d) (hq : RtX X (some (.int r.1)) r.2) {h : Hp} (e : R_176_62 h = some r) : G X d 176 62 [none, none, none, none, none, none] [] h := by
  unfold R_176_62 at e
  rw [← Option.some.inj e] at hq
  exact k_176_62 hq
noncomputable def R_176_51 (v1 : Int32) (v2 : Int32) (v3 : Int32) (v4 : Int32) (h : Hp) : Option (Int32 × Hp) := gd (IA 85 0) (if (h 85 (Int32.toNatClampNeg 0)) = 6 then R_176_62 h else R_176_65 v1 v2 v3 v4 h)
theorem r_176_51 {X : GX} {d : Nat} {r : Int32 × Hp} (hd : 2 ≤ d) (hq : RtX X (some (.int r.1)) r.2) {h : Hp} {v1 : Int32} {v2 : Int32} {v3 : Int32} {v4 : Int32} (e : R_176_51 v1 v2 v3 v4 h = some r) : G X d 176 51 [some (.ref 84), some (.int v1), some (.int v2), some (.int v3), some (.int v4), none] [] h := by
  unfold R_176_51 at e
  have g := gd_s e; clear e; obtain ⟨b0, e⟩ := g
  refine k_176_51 b0 (fun c => ?_) (fun c => ?_)
  · rw [if_neg c] at e; exact r_176_65 hd hq e
  · rw [if_pos c] at e; exact r_176_62 hd hq e
noncomputable def R_176_46 (v1 : Int32) (v2 : Int32) (v3 : Int32) (v4 : Int32) (s0 : Int32) (h : Hp) : Option (Int32 × Hp) := if s0 = 0 then R_176_49 h else R_176_51 v1 v2 v3 v4 h
theorem r_176_46 {X : GX} {d : Nat} {r : Int32 × Hp} (hd : 2 ≤ d) (hq : RtX X (some (.int r.1)) r.2) {h : Hp} {v1 : Int32} {v2 : Int32} {v3 : Int32} {v4 : Int32} {s0 : Int32} (e : R_176_46 v1 v2 v3 v4 s0 h = some r) : G X d 176 46 [some (.ref 84), some (.int v1), some (.int v2), some (.int v3), some (.int v4), none] [.int s0] h := by
  unfold R_176_46 at e
  refine k_176_46 (fun c => ?_) (fun c => ?_)
  · rw [if_neg c] at e; exact r_176_51 hd hq e
  · rw [if_pos c] at e; exact r_176_49 hd hq e
noncomputable def R_176_36 (v1 : Int32) (v2 : Int32) (v3 : Int32) (v4 : Int32) (h : Hp) : Option (Int32 × Hp) := bndI (S_177 (Int32.toInt64 v4) 0 5 h) (R_176_46 v1 v2 v3 v4)
theorem r_176_36 {X : GX} {d : Nat} {r : Int32 × Hp} (hd : 2 ≤ d) (hq : RtX X (some (.int r.1)) r.2) {h : Hp} {v1 : Int32} {v2 : Int32} {v3 : Int32} {v4 : Int32} (e : R_176_36 v1 v2 v3 v4 h = some r) : G X d 176 36 [some (.ref 84), some (.int v1), some (.int v2), some (.int v3), some (.int v4), none] [] h := by
  unfold R_176_36 at e
  obtain ⟨x, h2, e1, e2⟩ := bndI_s e
  refine k_176_36 (by omega) (t_177 e1) ?_
  rintro _ _ ⟨rfl, rfl⟩
  exact r_176_46 hd hq e2
noncomputable def R_176_33 (v1 : Int32) (v2 : Int32) (v3 : Int32) (v4 : Int32) (s0 : Int32) (h : Hp) : Option (Int32 × Hp) := if s0 = 0 then R_176_49 h else R_176_36 v1 v2 v3 v4 h
theorem r_176_33 {X : GX} {d : Nat} {r : Int32 × Hp} (hd : 2 ≤ d) (hq : RtX X (some (.int r.1)) r.2) {h : Hp} {v1 : Int32} {v2 : Int32} {v3 : Int32} {v4 : Int32} {s0 : Int32} (e : R_176_33 v1 v2 v3 v4 s0 h = some r) : G X d 176 33 [some (.ref 84), some (.int v1), some (.int v2), some (.int v3), some (.int v4), none] [.int s0] h := by
  unfold R_176_33 at e
  refine k_176_33 (fun c => ?_) (fun c => ?_)
  · rw [if_pos c] at e; exact r_176_49 hd hq e
  · rw [if_neg c] at e; exact r_176_36 hd hq e
noncomputable def R_176_24 (v1 : Int32) (v2 : Int32) (v3 : Int32) (v4 : Int32) (h : Hp) : Option (Int32 × Hp) := bndI (S_177 (Int32.toInt64 v3) 0 9 h) (R_176_33 v1 v2 v3 v4)
theorem r_176_24 {X : GX} {d : Nat} {r : Int32 × Hp} (hd : 2 ≤ d) (hq : RtX X (some (.int r.1)) r.2) {h : Hp} {v1 : Int32} {v2 : Int32} {v3 : Int32} {v4 : Int32} (e : R_176_24 v1 v2 v3 v4 h = some r) : G X d 176 24 [some (.ref 84), some (.int v1), some (.int v2), some (.int v3), some (.int v4), none] [] h := by
  unfold R_176_24 at e
  obtain ⟨x, h2, e1, e2⟩ := bndI_s e
  refine k_176_24 (by omega) (t_177 e1) ?_
  rintro _ _ ⟨rfl, rfl⟩
  exact r_176_33 hd hq e2
noncomputable def R_176_21 (v1 : Int32) (v2 : Int32) (v3 : Int32) (v4 : Int32) (s0 : Int32) (h : Hp) : Option (Int32 × Hp) := if s0 = 0 then R_176_49 h else R_176_24 v1 v2 v3 v4 h
theorem r_176_21 {X : GX} {d : Nat} {r : Int32 × Hp} (hd : 2 ≤ d) (hq : RtX X (some (.int r.1)) r.2) {h : Hp} {v1 : Int32} {v2 : Int32} {v3 : Int32} {v4 : Int32} {s0 : Int32} (e : R_176_21 v1 v2 v3 v4 s0 h = some r) : G X d 176 21 [some (.ref 84), some (.int v1), some (.int v2), some (.int v3), some (.int v4), none] [.int s0] h := by
  unfold R_176_21 at e
  refine k_176_21 (fun c => ?_) (fun c => ?_)
  · rw [if_pos c] at e; exact r_176_49 hd hq e
  · rw [if_neg c] at e; exact r_176_24 hd hq e
noncomputable def R_176_12 (v1 : Int32) (v2 : Int32) (v3 : Int32) (v4 : Int32) (h : Hp) : Option (Int32 × Hp) := bndI (S_177 (Int32.toInt64 v2) 0 99 h) (R_176_21 v1 v2 v3 v4)
theorem r_176_12 {X : GX} {d : Nat} {r : Int32 × Hp} (hd : 2 ≤ d) (hq : RtX X (some (.int r.1)) r.2) {h : Hp} {v1 : Int32} {v2 : Int32} {v3 : Int32} {v4 : Int32} (e : R_176_12 v1 v2 v3 v4 h = some r) : G X d 176 12 [some (.ref 84), some (.int v1), some (.int v2), some (.int v3), some (.int v4), none] [] h := by
  unfold R_176_12 at e
  obtain ⟨x, h2, e1, e2⟩ := bndI_s e
  refine k_176_12 (by omega) (t_177 e1) ?_
  rintro _ _ ⟨rfl, rfl⟩
  exact r_176_21 hd hq e2
noncomputable def R_176_9 (v1 : Int32) (v2 : Int32) (v3 : Int32) (v4 : Int32) (s0 : Int32) (h : Hp) : Option (Int32 × Hp) := if s0 = 0 then R_176_49 h else R_176_12 v1 v2 v3 v4 h
theorem r_176_9 {X : GX} {d : Nat} {r : Int32 × Hp} (hd : 2 ≤ d) (hq : RtX X (some (.int r.1)) r.2) {h : Hp} {v1 : Int32} {v2 : Int32} {v3 : Int32} {v4 : Int32} {s0 : Int32} (e : R_176_9 v1 v2 v3 v4 s0 h = some r) : G X d 176 9 [some (.ref 84), some (.int v1), some (.int v2), some (.int v3), some (.int v4), none] [.int s0] h := by
  unfold R_176_9 at e
  refine k_176_9 (fun c => ?_) (fun c => ?_)
  · rw [if_pos c] at e; exact r_176_49 hd hq e
  · rw [if_neg c] at e; exact r_176_12 hd hq e
noncomputable def R_176_0 (v1 : Int32) (v2 : Int32) (v3 : Int32) (v4 : Int32) (h : Hp) : Option (Int32 × Hp) := bndI (S_177 (Int32.toInt64 v1) 1 5 h) (R_176_9 v1 v2 v3 v4)
theorem r_176_0 {X : GX} {d : Nat} {r : Int32 × Hp} (hd : 2 ≤ d) (hq : RtX X (some (.int r.1)) r.2) {h : Hp} {v1 : Int32} {v2 : Int32} {v3 : Int32} {v4 : Int32} (e : R_176_0 v1 v2 v3 v4 h = some r) : G X d 176 0 [some (.ref 84), some (.int v1), some (.int v2), some (.int v3), some (.int v4), none] [] h := by
  unfold R_176_0 at e
  obtain ⟨x, h2, e1, e2⟩ := bndI_s e
  refine k_176_0 (by omega) (t_177 e1) ?_
  rintro _ _ ⟨rfl, rfl⟩
  exact r_176_9 hd hq e2
noncomputable def S_176 (v1 : Int32) (v2 : Int32) (v3 : Int32) (v4 : Int32) (h : Hp) : Option (Int32 × Hp) := R_176_0 v1 v2 v3 v4 h
set_option maxRecDepth 100000 in
theorem t_176 {v1 : Int32} {v2 : Int32} {v3 : Int32} {v4 : Int32} {h : Hp} {r : Int32 × Hp} (e : S_176 v1 v2 v3 v4 h = some r) : CI 2 176 [.ref 84, .int v1, .int v2, .int v3, .int v4] h (fun x g => x = r.1 ∧ g = r.2) := by
  refine C.of mo_176 (Nat.le_of_ble_eq_true rfl) (fun X hq => ?_)
  exact r_176_0 (Nat.le_refl _) (hq _ _ ⟨_, rfl, rfl, rfl⟩) e
/-! 180 PlayedTruthModel.isScene(I)Z -/
noncomputable def R_180_15 (s0 : Int32) (h : Hp) : Option (Int32 × Hp) := gd (s0 = 0 ∨ s0 = 1) (some (s0, h))
theorem r_180_15 {X : GX} {d : Nat} {r : Int32 × Hp} (hd : 2 ≤ d) (hq : RtX X (some (.int r.1)) r.2) {h : Hp} {s0 : Int32} (e : R_180_15 s0 h = some r) : G X d 180 15 [none, none] [.int s0] h := by
  unfold R_180_15 at e
  have g := gd_s e; clear e; obtain ⟨z0, e⟩ := g
  rw [← Option.some.inj e] at hq
  exact k_180_15 z0 hq
noncomputable def R_180_0 (v1 : Int32) (h : Hp) : Option (Int32 × Hp) := gd (IA 85 0) (bndI (S_177 (Int32.toInt64 v1) 0 (Int32.toInt64 ((h 85 (Int32.toNatClampNeg 0)) - 1)) h) (R_180_15))
theorem r_180_0 {X : GX} {d : Nat} {r : Int32 × Hp} (hd : 2 ≤ d) (hq : RtX X (some (.int r.1)) r.2) {h : Hp} {v1 : Int32} (e : R_180_0 v1 h = some r) : G X d 180 0 [some (.ref 84), some (.int v1)] [] h := by
  unfold R_180_0 at e
  have g := gd_s e; clear e; obtain ⟨b0, e⟩ := g
  obtain ⟨x, h2, e1, e2⟩ := bndI_s e
  refine k_180_0 b0 (by omega) (t_177 e1) ?_
  rintro _ _ ⟨rfl, rfl⟩
  exact r_180_15 hd hq e2
noncomputable def S_180 (v1 : Int32) (h : Hp) : Option (Int32 × Hp) := R_180_0 v1 h
set_option maxRecDepth 100000 in
theorem t_180 {v1 : Int32} {h : Hp} {r : Int32 × Hp} (e : S_180 v1 h = some r) : CI 2 180 [.ref 84, .int v1] h (fun x g => x = r.1 ∧ g = r.2) := by
  refine C.of mo_180 (Nat.le_of_ble_eq_true rfl) (fun X hq => ?_)
  exact r_180_0 (Nat.le_refl _) (hq _ _ ⟨_, rfl, rfl, rfl⟩) e
/-! 182 PlayedTruthModel.of(II)I -/
noncomputable def R_182_0 (v1 : Int32) (v2 : Int32) (h : Hp) : Option (Int32 × Hp) := gd (IA 85 ((35 + (5 * v1)) + v2)) (some ((h 85 (Int32.toNatClampNeg ((35 + (5 * v1)) + v2))), h))
theorem r_182_0 {X : GX} {d : Nat} {r : Int32 × Hp} (hd : 1 ≤ d) (hq : RtX X (some (.int r.1)) r.2) {h : Hp} {v1 : Int32} {v2 : Int32} (e : R_182_0 v1 v2 h = some r) : G X d 182 0 [some (.ref 84), some (.int v1), some (.int v2)] [] h := by
  unfold R_182_0 at e
  have g := gd_s e; clear e; obtain ⟨b0, e⟩ := g
  rw [← Option.some.inj e] at hq
  exact k_182_0 b0 hq
noncomputable def S_182 (v1 : Int32) (v2 : Int32) (h : Hp) : Option (Int32 × Hp) := R_182_0 v1 v2 h
set_option maxRecDepth 100000 in
theorem t_182 {v1 : Int32} {v2 : Int32} {h : Hp} {r : Int32 × Hp} (e : S_182 v1 v2 h = some r) : CI 1 182 [.ref 84, .int v1, .int v2] h (fun x g => x = r.1 ∧ g = r.2) := by
  refine C.of mo_182 (Nat.le_of_ble_eq_true rfl) (fun X hq => ?_)
  exact r_182_0 (Nat.le_refl _) (hq _ _ ⟨_, rfl, rfl, rfl⟩) e
/-! 184 PlayedTruthModel.houseOf(I)I -/
noncomputable def R_184_18 (h : Hp) : Option (Int32 × Hp) := some (0, h)
theorem r_184_18 {X : GX} {d : Nat} {r : Int32 × Hp} (hd : 1 ≤ d) (hq : RtX X (some (.int r.1)) r.2) {h : Hp} (e : R_184_18 h = some r) : G X d 184 18 [none, none] [] h := by
  unfold R_184_18 at e
  rw [← Option.some.inj e] at hq
  exact k_184_18 hq
noncomputable def R_184_6 (v1 : Int32) (h : Hp) : Option (Int32 × Hp) := gd (IA 85 (7 + v1)) (some ((h 85 (Int32.toNatClampNeg (7 + v1))), h))
theorem r_184_6 {X : GX} {d : Nat} {r : Int32 × Hp} (hd : 1 ≤ d) (hq : RtX X (some (.int r.1)) r.2) {h : Hp} {v1 : Int32} (e : R_184_6 v1 h = some r) : G X d 184 6 [some (.ref 84), some (.int v1)] [] h := by
  unfold R_184_6 at e
  have g := gd_s e; clear e; obtain ⟨b0, e⟩ := g
  rw [← Option.some.inj e] at hq
  exact k_184_6 b0 hq
noncomputable def R_184_0 (v1 : Int32) (h : Hp) : Option (Int32 × Hp) := if 16 ≤ v1 then R_184_18 h else R_184_6 v1 h
theorem r_184_0 {X : GX} {d : Nat} {r : Int32 × Hp} (hd : 1 ≤ d) (hq : RtX X (some (.int r.1)) r.2) {h : Hp} {v1 : Int32} (e : R_184_0 v1 h = some r) : G X d 184 0 [some (.ref 84), some (.int v1)] [] h := by
  unfold R_184_0 at e
  refine k_184_0 (fun c => ?_) (fun c => ?_)
  · rw [if_pos c] at e; exact r_184_18 hd hq e
  · rw [if_neg c] at e; exact r_184_6 hd hq e
noncomputable def S_184 (v1 : Int32) (h : Hp) : Option (Int32 × Hp) := R_184_0 v1 h
set_option maxRecDepth 100000 in
theorem t_184 {v1 : Int32} {h : Hp} {r : Int32 × Hp} (e : S_184 v1 h = some r) : CI 1 184 [.ref 84, .int v1] h (fun x g => x = r.1 ∧ g = r.2) := by
  refine C.of mo_184 (Nat.le_of_ble_eq_true rfl) (fun X hq => ?_)
  exact r_184_0 (Nat.le_refl _) (hq _ _ ⟨_, rfl, rfl, rfl⟩) e
/-! 183 PlayedTruthModel.rail()I -/
noncomputable def R_183_10 (s0 : Int32) (h : Hp) : Option (Int32 × Hp) := some ((s0 / 4), h)
theorem r_183_10 {X : GX} {d : Nat} {r : Int32 × Hp} (hd : 2 ≤ d) (hq : RtX X (some (.int r.1)) r.2) {h : Hp} {s0 : Int32} (e : R_183_10 s0 h = some r) : G X d 183 10 [none] [.int s0] h := by
  unfold R_183_10 at e
  rw [← Option.some.inj e] at hq
  exact k_183_10 hq
noncomputable def R_183_0 (h : Hp) : Option (Int32 × Hp) := gd (IA 85 1) (bndI (S_184 (h 85 (Int32.toNatClampNeg 1)) h) (R_183_10))
theorem r_183_0 {X : GX} {d : Nat} {r : Int32 × Hp} (hd : 2 ≤ d) (hq : RtX X (some (.int r.1)) r.2) {h : Hp} (e : R_183_0 h = some r) : G X d 183 0 [some (.ref 84)] [] h := by
  unfold R_183_0 at e
  have g := gd_s e; clear e; obtain ⟨b0, e⟩ := g
  obtain ⟨x, h2, e1, e2⟩ := bndI_s e
  refine k_183_0 b0 (by omega) (t_184 e1) ?_
  rintro _ _ ⟨rfl, rfl⟩
  exact r_183_10 hd hq e2
noncomputable def S_183 (h : Hp) : Option (Int32 × Hp) := R_183_0 h
set_option maxRecDepth 100000 in
theorem t_183 {h : Hp} {r : Int32 × Hp} (e : S_183 h = some r) : CI 2 183 [.ref 84] h (fun x g => x = r.1 ∧ g = r.2) := by
  refine C.of mo_183 (Nat.le_of_ble_eq_true rfl) (fun X hq => ?_)
  exact r_183_0 (Nat.le_refl _) (hq _ _ ⟨_, rfl, rfl, rfl⟩) e
/-! 186 PlayedTruthModel.held(III)I -/
noncomputable def R_186_18 (v0 : Int32) (h : Hp) : Option (Int32 × Hp) := some (v0, h)
theorem r_186_18 {X : GX} {d : Nat} {r : Int32 × Hp} (hd : 1 ≤ d) (hq : RtX X (some (.int r.1)) r.2) {h : Hp} {v0 : Int32} (e : R_186_18 v0 h = some r) : G X d 186 18 [some (.int v0), none, none] [] h := by
  unfold R_186_18 at e
  rw [← Option.some.inj e] at hq
  exact k_186_18 hq
noncomputable def R_186_14 (v2 : Int32) (h : Hp) : Option (Int32 × Hp) := some (v2, h)
theorem r_186_14 {X : GX} {d : Nat} {r : Int32 × Hp} (hd : 1 ≤ d) (hq : RtX X (some (.int r.1)) r.2) {h : Hp} {v2 : Int32} (e : R_186_14 v2 h = some r) : G X d 186 14 [none, none, some (.int v2)] [] h := by
  unfold R_186_14 at e
  rw [← Option.some.inj e] at hq
  exact k_186_14 hq
noncomputable def R_186_9 (v0 : Int32) (v2 : Int32) (h : Hp) : Option (Int32 × Hp) := if v0 ≤ v2 then R_186_18 v0 h else R_186_14 v2 h
theorem r_186_9 {X : GX} {d : Nat} {r : Int32 × Hp} (hd : 1 ≤ d) (hq : RtX X (some (.int r.1)) r.2) {h : Hp} {v0 : Int32} {v2 : Int32} (e : R_186_9 v0 v2 h = some r) : G X d 186 9 [some (.int v0), none, some (.int v2)] [] h := by
  unfold R_186_9 at e
  refine k_186_9 (fun c => ?_) (fun c => ?_)
  · rw [if_pos c] at e; exact r_186_18 hd hq e
  · rw [if_neg c] at e; exact r_186_14 hd hq e
noncomputable def R_186_5 (v1 : Int32) (h : Hp) : Option (Int32 × Hp) := some (v1, h)
theorem r_186_5 {X : GX} {d : Nat} {r : Int32 × Hp} (hd : 1 ≤ d) (hq : RtX X (some (.int r.1)) r.2) {h : Hp} {v1 : Int32} (e : R_186_5 v1 h = some r) : G X d 186 5 [none, some (.int v1), none] [] h := by
  unfold R_186_5 at e
  rw [← Option.some.inj e] at hq
  exact k_186_5 hq
noncomputable def R_186_0 (v0 : Int32) (v1 : Int32) (v2 : Int32) (h : Hp) : Option (Int32 × Hp) := if v1 ≤ v0 then R_186_9 v0 v2 h else R_186_5 v1 h
theorem r_186_0 {X : GX} {d : Nat} {r : Int32 × Hp} (hd : 1 ≤ d) (hq : RtX X (some (.int r.1)) r.2) {h : Hp} {v0 : Int32} {v1 : Int32} {v2 : Int32} (e : R_186_0 v0 v1 v2 h = some r) : G X d 186 0 [some (.int v0), some (.int v1), some (.int v2)] [] h := by
  unfold R_186_0 at e
  refine k_186_0 (fun c => ?_) (fun c => ?_)
  · rw [if_pos c] at e; exact r_186_9 hd hq e
  · rw [if_neg c] at e; exact r_186_5 hd hq e
noncomputable def S_186 (v0 : Int32) (v1 : Int32) (v2 : Int32) (h : Hp) : Option (Int32 × Hp) := R_186_0 v0 v1 v2 h
set_option maxRecDepth 100000 in
theorem t_186 {v0 : Int32} {v1 : Int32} {v2 : Int32} {h : Hp} {r : Int32 × Hp} (e : S_186 v0 v1 v2 h = some r) : CI 1 186 [.int v0, .int v1, .int v2] h (fun x g => x = r.1 ∧ g = r.2) := by
  refine C.of mo_186 (Nat.le_of_ble_eq_true rfl) (fun X hq => ?_)
  exact r_186_0 (Nat.le_refl _) (hq _ _ ⟨_, rfl, rfl, rfl⟩) e
/-! 185 PlayedTruthModel.learnsBy(IIII)I -/
noncomputable def R_185_52 (v1 : Int32) (v2 : Int32) (h : Hp) : Option (Int32 × Hp) := some (((8 * v1) + (v2 / 10)), h)
theorem r_185_52 {X : GX} {d : Nat} {r : Int32 × Hp} (hd : 2 ≤ d) (hq : RtX X (some (.int r.1)) r.2) {h : Hp} {v1 : Int32} {v2 : Int32} (e : R_185_52 v1 v2 h = some r) : G X d 185 52 [none, some (.int v1), some (.int v2), none, none] [] h := by
  unfold R_185_52 at e
  rw [← Option.some.inj e] at hq
  exact k_185_52 hq
noncomputable def R_185_62 (v4 : Int32) (h : Hp) : Option (Int32 × Hp) := some (v4, h)
theorem r_185_62 {X : GX} {d : Nat} {r : Int32 × Hp} (hd : 2 ≤ d) (hq : RtX X (some (.int r.1)) r.2) {h : Hp} {v4 : Int32} (e : R_185_62 v4 h = some r) : G X d 185 62 [none, none, none, none, some (.int v4)] [] h := by
  unfold R_185_62 at e
  rw [← Option.some.inj e] at hq
  exact k_185_62 hq
noncomputable def R_185_75 (s0 : Int32) (h : Hp) : Option (Int32 × Hp) := some (s0, h)
theorem r_185_75 {X : GX} {d : Nat} {r : Int32 × Hp} (hd : 2 ≤ d) (hq : RtX X (some (.int r.1)) r.2) {h : Hp} {s0 : Int32} (e : R_185_75 s0 h = some r) : G X d 185 75 [none, none, none, none, none] [.int s0] h := by
  unfold R_185_75 at e
  rw [← Option.some.inj e] at hq
  exact k_185_75 hq
noncomputable def R_185_65 (v4 : Int32) (h : Hp) : Option (Int32 × Hp) := bndI (S_186 (v4 - 3) 0 99 h) (R_185_75)
theorem r_185_65 {X : GX} {d : Nat} {r : Int32 × Hp} (hd : 2 ≤ d) (hq : RtX X (some (.int r.1)) r.2) {h : Hp} {v4 : Int32} (e : R_185_65 v4 h = some r) : G X d 185 65 [none, none, none, none, some (.int v4)] [] h := by
  unfold R_185_65 at e
  obtain ⟨x, h2, e1, e2⟩ := bndI_s e
  refine k_185_65 (by omega) (t_186 e1) ?_
  rintro _ _ ⟨rfl, rfl⟩
  exact r_185_75 hd hq e2
noncomputable def R_185_76 (v1 : Int32) (h : Hp) : Option (Int32 × Hp) := some (((5 * v1) + 4), h)
theorem r_185_76 {X : GX} {d : Nat} {r : Int32 × Hp} (hd : 2 ≤ d) (hq : RtX X (some (.int r.1)) r.2) {h : Hp} {v1 : Int32} (e : R_185_76 v1 h = some r) : G X d 185 76 [none, some (.int v1), none, none, none] [] h := by
  unfold R_185_76 at e
  rw [← Option.some.inj e] at hq
  exact k_185_76 hq
noncomputable def R_185_93 (v1 : Int32) (h : Hp) : Option (Int32 × Hp) := some (((5 * v1) + 4), h)
theorem r_185_93 {X : GX} {d : Nat} {r : Int32 × Hp} (hd : 2 ≤ d) (hq : RtX X (some (.int r.1)) r.2) {h : Hp} {v1 : Int32} (e : R_185_93 v1 h = some r) : G X d 185 93 [none, some (.int v1), none, none, none] [] h := by
  unfold R_185_93 at e
  rw [← Option.some.inj e] at hq
  exact k_185_93 hq
noncomputable def R_185_89 (h : Hp) : Option (Int32 × Hp) := some (0, h)
theorem r_185_89 {X : GX} {d : Nat} {r : Int32 × Hp} (hd : 2 ≤ d) (hq : RtX X (some (.int r.1)) r.2) {h : Hp} (e : R_185_89 h = some r) : G X d 185 89 [none, none, none, none, none] [] h := by
  unfold R_185_89 at e
  rw [← Option.some.inj e] at hq
  exact k_185_89 hq
noncomputable def R_185_82 (v1 : Int32) (v3 : Int32) (h : Hp) : Option (Int32 × Hp) := if (v3 - v3 / 2 * 2) = 1 then R_185_89 h else R_185_93 v1 h
theorem r_185_82 {X : GX} {d : Nat} {r : Int32 × Hp} (hd : 2 ≤ d) (hq : RtX X (some (.int r.1)) r.2) {h : Hp} {v1 : Int32} {v3 : Int32} (e : R_185_82 v1 v3 h = some r) : G X d 185 82 [none, some (.int v1), none, some (.int v3), none] [] h := by
  unfold R_185_82 at e
  refine k_185_82 (fun c => ?_) (fun c => ?_)
  · rw [if_neg c] at e; exact r_185_93 hd hq e
  · rw [if_pos c] at e; exact r_185_89 hd hq e
noncomputable def R_185_99 (v1 : Int32) (h : Hp) : Option (Int32 × Hp) := some ((8 * v1), h)
theorem r_185_99 {X : GX} {d : Nat} {r : Int32 × Hp} (hd : 2 ≤ d) (hq : RtX X (some (.int r.1)) r.2) {h : Hp} {v1 : Int32} (e : R_185_99 v1 h = some r) : G X d 185 99 [none, some (.int v1), none, none, none] [] h := by
  unfold R_185_99 at e
  rw [← Option.some.inj e] at hq
  exact k_185_99 hq
noncomputable def R_185_12 (v0 : Int32) (v1 : Int32) (v2 : Int32) (v3 : Int32) (h : Hp) : Option (Int32 × Hp) := if v0 = 1 then R_185_52 v1 v2 h else (if v0 = 2 then R_185_62 (8 * v1) h else (if v0 = 3 then R_185_65 (8 * v1) h else (if v0 = 4 then R_185_76 v1 h else (if v0 = 5 then R_185_82 v1 v3 h else (R_185_99 v1 h)))))
theorem r_185_12 {X : GX} {d : Nat} {r : Int32 × Hp} (hd : 2 ≤ d) (hq : RtX X (some (.int r.1)) r.2) {h : Hp} {v0 : Int32} {v1 : Int32} {v2 : Int32} {v3 : Int32} (e : R_185_12 v0 v1 v2 v3 h = some r) : G X d 185 12 [some (.int v0), some (.int v1), some (.int v2), some (.int v3), none] [] h := by
  unfold R_185_12 at e
  refine k_185_12 (fun c => ?_) (fun c => ?_) (fun c => ?_) (fun c => ?_) (fun c => ?_) (fun c0 c1 c2 c3 c4 => ?_)
  · rw [if_pos c] at e; exact r_185_52 hd hq e
  · rw [if_neg (show ¬ v0 = 1 by rw [c]; decide), if_pos c] at e; exact r_185_62 hd hq e
  · rw [if_neg (show ¬ v0 = 1 by rw [c]; decide), if_neg (show ¬ v0 = 2 by rw [c]; decide), if_pos c] at e; exact r_185_65 hd hq e
  · rw [if_neg (show ¬ v0 = 1 by rw [c]; decide), if_neg (show ¬ v0 = 2 by rw [c]; decide), if_neg (show ¬ v0 = 3 by rw [c]; decide), if_pos c] at e; exact r_185_76 hd hq e
  · rw [if_neg (show ¬ v0 = 1 by rw [c]; decide), if_neg (show ¬ v0 = 2 by rw [c]; decide), if_neg (show ¬ v0 = 3 by rw [c]; decide), if_neg (show ¬ v0 = 4 by rw [c]; decide), if_pos c] at e; exact r_185_82 hd hq e
  · rw [if_neg c0, if_neg c1, if_neg c2, if_neg c3, if_neg c4] at e; exact r_185_99 hd hq e
noncomputable def R_185_6 (v0 : Int32) (v1 : Int32) (v2 : Int32) (v3 : Int32) (h : Hp) : Option (Int32 × Hp) := if v0 = 1 then R_185_52 v1 v2 h else (if v0 = 2 then R_185_62 (4 * v1) h else (if v0 = 3 then R_185_65 (4 * v1) h else (if v0 = 4 then R_185_76 v1 h else (if v0 = 5 then R_185_82 v1 v3 h else (R_185_99 v1 h)))))
theorem r_185_6 {X : GX} {d : Nat} {r : Int32 × Hp} (hd : 2 ≤ d) (hq : RtX X (some (.int r.1)) r.2) {h : Hp} {v0 : Int32} {v1 : Int32} {v2 : Int32} {v3 : Int32} (e : R_185_6 v0 v1 v2 v3 h = some r) : G X d 185 6 [some (.int v0), some (.int v1), some (.int v2), some (.int v3), none] [] h := by
  unfold R_185_6 at e
  refine k_185_6 (fun c => ?_) (fun c => ?_) (fun c => ?_) (fun c => ?_) (fun c => ?_) (fun c0 c1 c2 c3 c4 => ?_)
  · rw [if_pos c] at e; exact r_185_52 hd hq e
  · rw [if_neg (show ¬ v0 = 1 by rw [c]; decide), if_pos c] at e; exact r_185_62 hd hq e
  · rw [if_neg (show ¬ v0 = 1 by rw [c]; decide), if_neg (show ¬ v0 = 2 by rw [c]; decide), if_pos c] at e; exact r_185_65 hd hq e
  · rw [if_neg (show ¬ v0 = 1 by rw [c]; decide), if_neg (show ¬ v0 = 2 by rw [c]; decide), if_neg (show ¬ v0 = 3 by rw [c]; decide), if_pos c] at e; exact r_185_76 hd hq e
  · rw [if_neg (show ¬ v0 = 1 by rw [c]; decide), if_neg (show ¬ v0 = 2 by rw [c]; decide), if_neg (show ¬ v0 = 3 by rw [c]; decide), if_neg (show ¬ v0 = 4 by rw [c]; decide), if_pos c] at e; exact r_185_82 hd hq e
  · rw [if_neg c0, if_neg c1, if_neg c2, if_neg c3, if_neg c4] at e; exact r_185_99 hd hq e
noncomputable def R_185_0 (v0 : Int32) (v1 : Int32) (v2 : Int32) (v3 : Int32) (h : Hp) : Option (Int32 × Hp) := if v2 ≤ 40 then R_185_12 v0 v1 v2 v3 h else R_185_6 v0 v1 v2 v3 h
theorem r_185_0 {X : GX} {d : Nat} {r : Int32 × Hp} (hd : 2 ≤ d) (hq : RtX X (some (.int r.1)) r.2) {h : Hp} {v0 : Int32} {v1 : Int32} {v2 : Int32} {v3 : Int32} (e : R_185_0 v0 v1 v2 v3 h = some r) : G X d 185 0 [some (.int v0), some (.int v1), some (.int v2), some (.int v3), none] [] h := by
  unfold R_185_0 at e
  refine k_185_0 (fun c => ?_) (fun c => ?_)
  · rw [if_pos c] at e; exact r_185_12 hd hq e
  · rw [if_neg c] at e; exact r_185_6 hd hq e
noncomputable def S_185 (v0 : Int32) (v1 : Int32) (v2 : Int32) (v3 : Int32) (h : Hp) : Option (Int32 × Hp) := R_185_0 v0 v1 v2 v3 h
set_option maxRecDepth 100000 in
theorem t_185 {v0 : Int32} {v1 : Int32} {v2 : Int32} {v3 : Int32} {h : Hp} {r : Int32 × Hp} (e : S_185 v0 v1 v2 v3 h = some r) : CI 2 185 [.int v0, .int v1, .int v2, .int v3] h (fun x g => x = r.1 ∧ g = r.2) := by
  refine C.of mo_185 (Nat.le_of_ble_eq_true rfl) (fun X hq => ?_)
  exact r_185_0 (Nat.le_refl _) (hq _ _ ⟨_, rfl, rfl, rfl⟩) e
/-! 187 PlayedTruthModel.leans(I)I -/
noncomputable def R_187_55 (v2 : Int32) (h : Hp) : Option (Int32 × Hp) := some (v2, h)
theorem r_187_55 {X : GX} {d : Nat} {r : Int32 × Hp} (hd : 2 ≤ d) (hq : RtX X (some (.int r.1)) r.2) {h : Hp} {v2 : Int32} (e : R_187_55 v2 h = some r) : G X d 187 55 [none, none, some (.int v2), none] [] h := by
  unfold R_187_55 at e
  rw [← Option.some.inj e] at hq
  exact k_187_55 hq
noncomputable def R_187_46 (rec_4 : Int32 → Int32 → Int32 → Hp → Option (Int32 × Hp)) (v1 : Int32) (v3 : Int32) (s0 : Int32) (h : Hp) : Option (Int32 × Hp) := rec_4 v1 (s0 + 0) (v3 + 1) h
theorem r_187_46 {X : GX} {d : Nat} {r : Int32 × Hp} (hd : 2 ≤ d) (hq : RtX X (some (.int r.1)) r.2) {rec_4 : Int32 → Int32 → Int32 → Hp → Option (Int32 × Hp)} (hr_4 : ∀ {v1 : Int32} {v2 : Int32} {v3 : Int32} {h : Hp}, rec_4 v1 v2 v3 h = some r → G X d 187 4 [some (.ref 84), some (.int v1), some (.int v2), some (.int v3)] [] h) {h : Hp} {v1 : Int32} {v3 : Int32} {s0 : Int32} (e : R_187_46 rec_4 v1 v3 s0 h = some r) : G X d 187 46 [some (.ref 84), some (.int v1), none, some (.int v3)] [.int s0] h := by
  unfold R_187_46 at e
  exact k_187_46 (hr_4 e)
noncomputable def R_187_42 (rec_4 : Int32 → Int32 → Int32 → Hp → Option (Int32 × Hp)) (v1 : Int32) (v3 : Int32) (s0 : Int32) (h : Hp) : Option (Int32 × Hp) := rec_4 v1 (s0 + 1) (v3 + 1) h
theorem r_187_42 {X : GX} {d : Nat} {r : Int32 × Hp} (hd : 2 ≤ d) (hq : RtX X (some (.int r.1)) r.2) {rec_4 : Int32 → Int32 → Int32 → Hp → Option (Int32 × Hp)} (hr_4 : ∀ {v1 : Int32} {v2 : Int32} {v3 : Int32} {h : Hp}, rec_4 v1 v2 v3 h = some r → G X d 187 4 [some (.ref 84), some (.int v1), some (.int v2), some (.int v3)] [] h) {h : Hp} {v1 : Int32} {v3 : Int32} {s0 : Int32} (e : R_187_42 rec_4 v1 v3 s0 h = some r) : G X d 187 42 [some (.ref 84), some (.int v1), none, some (.int v3)] [.int s0] h := by
  unfold R_187_42 at e
  exact k_187_42 (hr_4 e)
noncomputable def R_187_37 (rec_4 : Int32 → Int32 → Int32 → Hp → Option (Int32 × Hp)) (v1 : Int32) (v3 : Int32) (s1 : Int32) (s2 : Int32) (s0 : Int32) (h : Hp) : Option (Int32 × Hp) := if s1 = (s0 - 1) then R_187_42 rec_4 v1 v3 s2 h else R_187_46 rec_4 v1 v3 s2 h
theorem r_187_37 {X : GX} {d : Nat} {r : Int32 × Hp} (hd : 2 ≤ d) (hq : RtX X (some (.int r.1)) r.2) {rec_4 : Int32 → Int32 → Int32 → Hp → Option (Int32 × Hp)} (hr_4 : ∀ {v1 : Int32} {v2 : Int32} {v3 : Int32} {h : Hp}, rec_4 v1 v2 v3 h = some r → G X d 187 4 [some (.ref 84), some (.int v1), some (.int v2), some (.int v3)] [] h) {h : Hp} {v1 : Int32} {v3 : Int32} {s1 : Int32} {s2 : Int32} {s0 : Int32} (e : R_187_37 rec_4 v1 v3 s1 s2 s0 h = some r) : G X d 187 37 [some (.ref 84), some (.int v1), none, some (.int v3)] [.int s0, .int s1, .int s2] h := by
  unfold R_187_37 at e
  refine k_187_37 (fun c => ?_) (fun c => ?_)
  · rw [if_neg c] at e; exact r_187_46 hd hq hr_4 e
  · rw [if_pos c] at e; exact r_187_42 hd hq hr_4 e
noncomputable def R_187_31 (rec_4 : Int32 → Int32 → Int32 → Hp → Option (Int32 × Hp)) (v1 : Int32) (v3 : Int32) (s1 : Int32) (s0 : Int32) (h : Hp) : Option (Int32 × Hp) := bndI (S_182 v1 3 h) (R_187_37 rec_4 v1 v3 s0 s1)
theorem r_187_31 {X : GX} {d : Nat} {r : Int32 × Hp} (hd : 2 ≤ d) (hq : RtX X (some (.int r.1)) r.2) {rec_4 : Int32 → Int32 → Int32 → Hp → Option (Int32 × Hp)} (hr_4 : ∀ {v1 : Int32} {v2 : Int32} {v3 : Int32} {h : Hp}, rec_4 v1 v2 v3 h = some r → G X d 187 4 [some (.ref 84), some (.int v1), some (.int v2), some (.int v3)] [] h) {h : Hp} {v1 : Int32} {v3 : Int32} {s1 : Int32} {s0 : Int32} (e : R_187_31 rec_4 v1 v3 s1 s0 h = some r) : G X d 187 31 [some (.ref 84), some (.int v1), none, some (.int v3)] [.int s0, .int s1] h := by
  unfold R_187_31 at e
  obtain ⟨x, h2, e1, e2⟩ := bndI_s e
  refine k_187_31 (by omega) (t_182 e1) ?_
  rintro _ _ ⟨rfl, rfl⟩
  exact r_187_37 hd hq hr_4 e2
noncomputable def R_187_25 (rec_4 : Int32 → Int32 → Int32 → Hp → Option (Int32 × Hp)) (v1 : Int32) (v3 : Int32) (s0 : Int32) (h : Hp) : Option (Int32 × Hp) := bndI (S_182 v3 3 h) (R_187_31 rec_4 v1 v3 s0)
theorem r_187_25 {X : GX} {d : Nat} {r : Int32 × Hp} (hd : 2 ≤ d) (hq : RtX X (some (.int r.1)) r.2) {rec_4 : Int32 → Int32 → Int32 → Hp → Option (Int32 × Hp)} (hr_4 : ∀ {v1 : Int32} {v2 : Int32} {v3 : Int32} {h : Hp}, rec_4 v1 v2 v3 h = some r → G X d 187 4 [some (.ref 84), some (.int v1), some (.int v2), some (.int v3)] [] h) {h : Hp} {v1 : Int32} {v3 : Int32} {s0 : Int32} (e : R_187_25 rec_4 v1 v3 s0 h = some r) : G X d 187 25 [some (.ref 84), some (.int v1), none, some (.int v3)] [.int s0] h := by
  unfold R_187_25 at e
  obtain ⟨x, h2, e1, e2⟩ := bndI_s e
  refine k_187_25 (by omega) (t_182 e1) ?_
  rintro _ _ ⟨rfl, rfl⟩
  exact r_187_31 hd hq hr_4 e2
noncomputable def R_187_21 (rec_4 : Int32 → Int32 → Int32 → Hp → Option (Int32 × Hp)) (v1 : Int32) (v3 : Int32) (s1 : Int32) (s0 : Int32) (h : Hp) : Option (Int32 × Hp) := if s0 = 1 then R_187_25 rec_4 v1 v3 s1 h else R_187_46 rec_4 v1 v3 s1 h
theorem r_187_21 {X : GX} {d : Nat} {r : Int32 × Hp} (hd : 2 ≤ d) (hq : RtX X (some (.int r.1)) r.2) {rec_4 : Int32 → Int32 → Int32 → Hp → Option (Int32 × Hp)} (hr_4 : ∀ {v1 : Int32} {v2 : Int32} {v3 : Int32} {h : Hp}, rec_4 v1 v2 v3 h = some r → G X d 187 4 [some (.ref 84), some (.int v1), some (.int v2), some (.int v3)] [] h) {h : Hp} {v1 : Int32} {v3 : Int32} {s1 : Int32} {s0 : Int32} (e : R_187_21 rec_4 v1 v3 s1 s0 h = some r) : G X d 187 21 [some (.ref 84), some (.int v1), none, some (.int v3)] [.int s0, .int s1] h := by
  unfold R_187_21 at e
  refine k_187_21 (fun c => ?_) (fun c => ?_)
  · rw [if_neg c] at e; exact r_187_46 hd hq hr_4 e
  · rw [if_pos c] at e; exact r_187_25 hd hq hr_4 e
noncomputable def R_187_14 (rec_4 : Int32 → Int32 → Int32 → Hp → Option (Int32 × Hp)) (v1 : Int32) (v2 : Int32) (v3 : Int32) (h : Hp) : Option (Int32 × Hp) := bndI (S_182 v3 4 h) (R_187_21 rec_4 v1 v3 v2)
theorem r_187_14 {X : GX} {d : Nat} {r : Int32 × Hp} (hd : 2 ≤ d) (hq : RtX X (some (.int r.1)) r.2) {rec_4 : Int32 → Int32 → Int32 → Hp → Option (Int32 × Hp)} (hr_4 : ∀ {v1 : Int32} {v2 : Int32} {v3 : Int32} {h : Hp}, rec_4 v1 v2 v3 h = some r → G X d 187 4 [some (.ref 84), some (.int v1), some (.int v2), some (.int v3)] [] h) {h : Hp} {v1 : Int32} {v2 : Int32} {v3 : Int32} (e : R_187_14 rec_4 v1 v2 v3 h = some r) : G X d 187 14 [some (.ref 84), some (.int v1), some (.int v2), some (.int v3)] [] h := by
  unfold R_187_14 at e
  obtain ⟨x, h2, e1, e2⟩ := bndI_s e
  refine k_187_14 (by omega) (t_182 e1) ?_
  rintro _ _ ⟨rfl, rfl⟩
  exact r_187_21 hd hq hr_4 e2
noncomputable def R_187_4 (rec_4 : Int32 → Int32 → Int32 → Hp → Option (Int32 × Hp)) (v1 : Int32) (v2 : Int32) (v3 : Int32) (h : Hp) : Option (Int32 × Hp) := gd (IA 85 0) (if (h 85 (Int32.toNatClampNeg 0)) ≤ v3 then R_187_55 v2 h else R_187_14 rec_4 v1 v2 v3 h)
theorem r_187_4 {X : GX} {d : Nat} {r : Int32 × Hp} (hd : 2 ≤ d) (hq : RtX X (some (.int r.1)) r.2) {rec_4 : Int32 → Int32 → Int32 → Hp → Option (Int32 × Hp)} (hr_4 : ∀ {v1 : Int32} {v2 : Int32} {v3 : Int32} {h : Hp}, rec_4 v1 v2 v3 h = some r → G X d 187 4 [some (.ref 84), some (.int v1), some (.int v2), some (.int v3)] [] h) {h : Hp} {v1 : Int32} {v2 : Int32} {v3 : Int32} (e : R_187_4 rec_4 v1 v2 v3 h = some r) : G X d 187 4 [some (.ref 84), some (.int v1), some (.int v2), some (.int v3)] [] h := by
  unfold R_187_4 at e
  have g := gd_s e; clear e; obtain ⟨b0, e⟩ := g
  refine k_187_4 b0 (fun c => ?_) (fun c => ?_)
  · rw [if_pos c] at e; exact r_187_55 hd hq e
  · rw [if_neg c] at e; exact r_187_14 hd hq hr_4 e
noncomputable def H_187_4 : Nat → Int32 → Int32 → Int32 → Hp → Option (Int32 × Hp)
  | 0, _, _, _, _ => none
  | n + 1, v1, v2, v3, h => R_187_4 (H_187_4 n) v1 v2 v3 h
theorem h_187_4 {X : GX} {d : Nat} {r : Int32 × Hp} (hd : 2 ≤ d) (hq : RtX X (some (.int r.1)) r.2) {n : Nat} {h : Hp} {v1 : Int32} {v2 : Int32} {v3 : Int32} (e : H_187_4 n v1 v2 v3 h = some r) : G X d 187 4 [some (.ref 84), some (.int v1), some (.int v2), some (.int v3)] [] h := by
  induction n generalizing v1 v2 v3 h with
  | zero => cases e
  | succ n ih => exact r_187_4 hd hq (fun e => ih e) e
noncomputable def R_187_0 (v1 : Int32) (h : Hp) : Option (Int32 × Hp) := H_187_4 fuL v1 0 0 h
theorem r_187_0 {X : GX} {d : Nat} {r : Int32 × Hp} (hd : 2 ≤ d) (hq : RtX X (some (.int r.1)) r.2) {h : Hp} {v1 : Int32} (e : R_187_0 v1 h = some r) : G X d 187 0 [some (.ref 84), some (.int v1), none, none] [] h := by
  unfold R_187_0 at e
  exact k_187_0 (h_187_4 hd hq e)
noncomputable def S_187 (v1 : Int32) (h : Hp) : Option (Int32 × Hp) := R_187_0 v1 h
set_option maxRecDepth 100000 in
theorem t_187 {v1 : Int32} {h : Hp} {r : Int32 × Hp} (e : S_187 v1 h = some r) : CI 2 187 [.ref 84, .int v1] h (fun x g => x = r.1 ∧ g = r.2) := by
  refine C.of mo_187 (Nat.le_of_ble_eq_true rfl) (fun X hq => ?_)
  exact r_187_0 (Nat.le_refl _) (hq _ _ ⟨_, rfl, rfl, rfl⟩) e
/-! 181 PlayedTruthModel.learns(I)I -/
noncomputable def R_181_55 (s0 : Int32) (h : Hp) : Option (Int32 × Hp) := some (s0, h)
theorem r_181_55 {X : GX} {d : Nat} {r : Int32 × Hp} (hd : 3 ≤ d) (hq : RtX X (some (.int r.1)) r.2) {h : Hp} {s0 : Int32} (e : R_181_55 s0 h = some r) : G X d 181 55 [none, none] [.int s0] h := by
  unfold R_181_55 at e
  rw [← Option.some.inj e] at hq
  exact k_181_55 hq
noncomputable def R_181_45 (s1 : Int32) (s2 : Nat) (s3 : Int32) (s0 : Int32) (h : Hp) : Option (Int32 × Hp) := gd (IA s2 (s1 + s0)) (bndI (S_186 (s3 - (h s2 (Int32.toNatClampNeg (s1 + s0)))) 0 361 h) (R_181_55))
theorem r_181_45 {X : GX} {d : Nat} {r : Int32 × Hp} (hd : 3 ≤ d) (hq : RtX X (some (.int r.1)) r.2) {h : Hp} {s1 : Int32} {s2 : Nat} {s3 : Int32} {s0 : Int32} (e : R_181_45 s1 s2 s3 s0 h = some r) : G X d 181 45 [none, none] [.int s0, .int s1, .ref s2, .int s3] h := by
  unfold R_181_45 at e
  have g := gd_s e; clear e; obtain ⟨b0, e⟩ := g
  obtain ⟨x, h2, e1, e2⟩ := bndI_s e
  refine k_181_45 b0 (by omega) (t_186 e1) ?_
  rintro _ _ ⟨rfl, rfl⟩
  exact r_181_55 hd hq e2
noncomputable def R_181_31 (v1 : Int32) (s1 : Int32) (s2 : Int32) (s0 : Int32) (h : Hp) : Option (Int32 × Hp) := bndI (S_182 v1 3 h) (R_181_45 29 85 (s2 + (s1 * s0)))
theorem r_181_31 {X : GX} {d : Nat} {r : Int32 × Hp} (hd : 3 ≤ d) (hq : RtX X (some (.int r.1)) r.2) {h : Hp} {v1 : Int32} {s1 : Int32} {s2 : Int32} {s0 : Int32} (e : R_181_31 v1 s1 s2 s0 h = some r) : G X d 181 31 [some (.ref 84), some (.int v1)] [.int s0, .int s1, .int s2] h := by
  unfold R_181_31 at e
  obtain ⟨x, h2, e1, e2⟩ := bndI_s e
  refine k_181_31 (by omega) (t_182 e1) ?_
  rintro _ _ ⟨rfl, rfl⟩
  exact r_181_45 hd hq e2
noncomputable def R_181_25 (v1 : Int32) (s0 : Int32) (h : Hp) : Option (Int32 × Hp) := bndI (S_187 v1 h) (R_181_31 v1 5 s0)
theorem r_181_25 {X : GX} {d : Nat} {r : Int32 × Hp} (hd : 3 ≤ d) (hq : RtX X (some (.int r.1)) r.2) {h : Hp} {v1 : Int32} {s0 : Int32} (e : R_181_25 v1 s0 h = some r) : G X d 181 25 [some (.ref 84), some (.int v1)] [.int s0] h := by
  unfold R_181_25 at e
  obtain ⟨x, h2, e1, e2⟩ := bndI_s e
  refine k_181_25 (by omega) (t_187 e1) ?_
  rintro _ _ ⟨rfl, rfl⟩
  exact r_181_31 hd hq e2
noncomputable def R_181_16 (v1 : Int32) (s1 : Int32) (s2 : Int32) (s0 : Int32) (h : Hp) : Option (Int32 × Hp) := gd (IA 85 1) (bndI (S_185 s2 s1 s0 (h 85 (Int32.toNatClampNeg 1)) h) (R_181_25 v1))
theorem r_181_16 {X : GX} {d : Nat} {r : Int32 × Hp} (hd : 3 ≤ d) (hq : RtX X (some (.int r.1)) r.2) {h : Hp} {v1 : Int32} {s1 : Int32} {s2 : Int32} {s0 : Int32} (e : R_181_16 v1 s1 s2 s0 h = some r) : G X d 181 16 [some (.ref 84), some (.int v1)] [.int s0, .int s1, .int s2] h := by
  unfold R_181_16 at e
  have g := gd_s e; clear e; obtain ⟨b0, e⟩ := g
  obtain ⟨x, h2, e1, e2⟩ := bndI_s e
  refine k_181_16 b0 (by omega) (t_185 e1) ?_
  rintro _ _ ⟨rfl, rfl⟩
  exact r_181_25 hd hq e2
noncomputable def R_181_10 (v1 : Int32) (s1 : Int32) (s0 : Int32) (h : Hp) : Option (Int32 × Hp) := bndI (S_182 v1 1 h) (R_181_16 v1 s0 s1)
theorem r_181_10 {X : GX} {d : Nat} {r : Int32 × Hp} (hd : 3 ≤ d) (hq : RtX X (some (.int r.1)) r.2) {h : Hp} {v1 : Int32} {s1 : Int32} {s0 : Int32} (e : R_181_10 v1 s1 s0 h = some r) : G X d 181 10 [some (.ref 84), some (.int v1)] [.int s0, .int s1] h := by
  unfold R_181_10 at e
  obtain ⟨x, h2, e1, e2⟩ := bndI_s e
  refine k_181_10 (by omega) (t_182 e1) ?_
  rintro _ _ ⟨rfl, rfl⟩
  exact r_181_16 hd hq e2
noncomputable def R_181_6 (v1 : Int32) (s0 : Int32) (h : Hp) : Option (Int32 × Hp) := bndI (S_183 h) (R_181_10 v1 s0)
theorem r_181_6 {X : GX} {d : Nat} {r : Int32 × Hp} (hd : 3 ≤ d) (hq : RtX X (some (.int r.1)) r.2) {h : Hp} {v1 : Int32} {s0 : Int32} (e : R_181_6 v1 s0 h = some r) : G X d 181 6 [some (.ref 84), some (.int v1)] [.int s0] h := by
  unfold R_181_6 at e
  obtain ⟨x, h2, e1, e2⟩ := bndI_s e
  refine k_181_6 (by omega) (t_183 e1) ?_
  rintro _ _ ⟨rfl, rfl⟩
  exact r_181_10 hd hq e2
noncomputable def R_181_0 (v1 : Int32) (h : Hp) : Option (Int32 × Hp) := bndI (S_182 v1 0 h) (R_181_6 v1)
theorem r_181_0 {X : GX} {d : Nat} {r : Int32 × Hp} (hd : 3 ≤ d) (hq : RtX X (some (.int r.1)) r.2) {h : Hp} {v1 : Int32} (e : R_181_0 v1 h = some r) : G X d 181 0 [some (.ref 84), some (.int v1)] [] h := by
  unfold R_181_0 at e
  obtain ⟨x, h2, e1, e2⟩ := bndI_s e
  refine k_181_0 (by omega) (t_182 e1) ?_
  rintro _ _ ⟨rfl, rfl⟩
  exact r_181_6 hd hq e2
noncomputable def S_181 (v1 : Int32) (h : Hp) : Option (Int32 × Hp) := R_181_0 v1 h
set_option maxRecDepth 100000 in
theorem t_181 {v1 : Int32} {h : Hp} {r : Int32 × Hp} (e : S_181 v1 h = some r) : CI 3 181 [.ref 84, .int v1] h (fun x g => x = r.1 ∧ g = r.2) := by
  refine C.of mo_181 (Nat.le_of_ble_eq_true rfl) (fun X hq => ?_)
  exact r_181_0 (Nat.le_refl _) (hq _ _ ⟨_, rfl, rfl, rfl⟩) e
/-! 189 PlayedTruthModel.drawsBy(IIII)I -/
noncomputable def R_189_52 (h : Hp) : Option (Int32 × Hp) := some (9, h)
theorem r_189_52 {X : GX} {d : Nat} {r : Int32 × Hp} (hd : 2 ≤ d) (hq : RtX X (some (.int r.1)) r.2) {h : Hp} (e : R_189_52 h = some r) : G X d 189 52 [none, none, none, none, none] [] h := by
  unfold R_189_52 at e
  rw [← Option.some.inj e] at hq
  exact k_189_52 hq
noncomputable def R_189_55 (v1 : Int32) (v4 : Int32) (h : Hp) : Option (Int32 × Hp) := some ((v4 + v1), h)
theorem r_189_55 {X : GX} {d : Nat} {r : Int32 × Hp} (hd : 2 ≤ d) (hq : RtX X (some (.int r.1)) r.2) {h : Hp} {v1 : Int32} {v4 : Int32} (e : R_189_55 v1 v4 h = some r) : G X d 189 55 [none, some (.int v1), none, none, some (.int v4)] [] h := by
  unfold R_189_55 at e
  rw [← Option.some.inj e] at hq
  exact k_189_55 hq
noncomputable def R_189_60 (v1 : Int32) (v4 : Int32) (h : Hp) : Option (Int32 × Hp) := some ((2 * (v4 + v1)), h)
theorem r_189_60 {X : GX} {d : Nat} {r : Int32 × Hp} (hd : 2 ≤ d) (hq : RtX X (some (.int r.1)) r.2) {h : Hp} {v1 : Int32} {v4 : Int32} (e : R_189_60 v1 v4 h = some r) : G X d 189 60 [none, some (.int v1), none, none, some (.int v4)] [] h := by
  unfold R_189_60 at e
  rw [← Option.some.inj e] at hq
  exact k_189_60 hq
noncomputable def R_189_67 (v4 : Int32) (h : Hp) : Option (Int32 × Hp) := some ((v4 / 2), h)
theorem r_189_67 {X : GX} {d : Nat} {r : Int32 × Hp} (hd : 2 ≤ d) (hq : RtX X (some (.int r.1)) r.2) {h : Hp} {v4 : Int32} (e : R_189_67 v4 h = some r) : G X d 189 67 [none, none, none, none, some (.int v4)] [] h := by
  unfold R_189_67 at e
  rw [← Option.some.inj e] at hq
  exact k_189_67 hq
noncomputable def R_189_72 (v3 : Int32) (v4 : Int32) (h : Hp) : Option (Int32 × Hp) := some (((v4 / 2) + v3), h)
theorem r_189_72 {X : GX} {d : Nat} {r : Int32 × Hp} (hd : 2 ≤ d) (hq : RtX X (some (.int r.1)) r.2) {h : Hp} {v3 : Int32} {v4 : Int32} (e : R_189_72 v3 v4 h = some r) : G X d 189 72 [none, none, none, some (.int v3), some (.int v4)] [] h := by
  unfold R_189_72 at e
  rw [← Option.some.inj e] at hq
  exact k_189_72 hq
noncomputable def R_189_79 (v4 : Int32) (h : Hp) : Option (Int32 × Hp) := some (v4, h)
theorem r_189_79 {X : GX} {d : Nat} {r : Int32 × Hp} (hd : 2 ≤ d) (hq : RtX X (some (.int r.1)) r.2) {h : Hp} {v4 : Int32} (e : R_189_79 v4 h = some r) : G X d 189 79 [none, none, none, none, some (.int v4)] [] h := by
  unfold R_189_79 at e
  rw [← Option.some.inj e] at hq
  exact k_189_79 hq
noncomputable def R_189_15 (v0 : Int32) (v1 : Int32) (v3 : Int32) (s0 : Int32) (h : Hp) : Option (Int32 × Hp) := if v0 = 1 then R_189_52 h else (if v0 = 2 then R_189_55 v1 s0 h else (if v0 = 3 then R_189_60 v1 s0 h else (if v0 = 4 then R_189_67 s0 h else (if v0 = 5 then R_189_72 v3 s0 h else (R_189_79 s0 h)))))
theorem r_189_15 {X : GX} {d : Nat} {r : Int32 × Hp} (hd : 2 ≤ d) (hq : RtX X (some (.int r.1)) r.2) {h : Hp} {v0 : Int32} {v1 : Int32} {v3 : Int32} {s0 : Int32} (e : R_189_15 v0 v1 v3 s0 h = some r) : G X d 189 15 [some (.int v0), some (.int v1), none, some (.int v3), none] [.int s0] h := by
  unfold R_189_15 at e
  refine k_189_15 (fun c => ?_) (fun c => ?_) (fun c => ?_) (fun c => ?_) (fun c => ?_) (fun c0 c1 c2 c3 c4 => ?_)
  · rw [if_pos c] at e; exact r_189_52 hd hq e
  · rw [if_neg (show ¬ v0 = 1 by rw [c]; decide), if_pos c] at e; exact r_189_55 hd hq e
  · rw [if_neg (show ¬ v0 = 1 by rw [c]; decide), if_neg (show ¬ v0 = 2 by rw [c]; decide), if_pos c] at e; exact r_189_60 hd hq e
  · rw [if_neg (show ¬ v0 = 1 by rw [c]; decide), if_neg (show ¬ v0 = 2 by rw [c]; decide), if_neg (show ¬ v0 = 3 by rw [c]; decide), if_pos c] at e; exact r_189_67 hd hq e
  · rw [if_neg (show ¬ v0 = 1 by rw [c]; decide), if_neg (show ¬ v0 = 2 by rw [c]; decide), if_neg (show ¬ v0 = 3 by rw [c]; decide), if_neg (show ¬ v0 = 4 by rw [c]; decide), if_pos c] at e; exact r_189_72 hd hq e
  · rw [if_neg c0, if_neg c1, if_neg c2, if_neg c3, if_neg c4] at e; exact r_189_79 hd hq e
noncomputable def R_189_0 (v0 : Int32) (v1 : Int32) (v2 : Int32) (v3 : Int32) (h : Hp) : Option (Int32 × Hp) := bndI (S_186 ((10 + v1) - (v2 / 9)) 0 99 h) (R_189_15 v0 v1 v3)
theorem r_189_0 {X : GX} {d : Nat} {r : Int32 × Hp} (hd : 2 ≤ d) (hq : RtX X (some (.int r.1)) r.2) {h : Hp} {v0 : Int32} {v1 : Int32} {v2 : Int32} {v3 : Int32} (e : R_189_0 v0 v1 v2 v3 h = some r) : G X d 189 0 [some (.int v0), some (.int v1), some (.int v2), some (.int v3), none] [] h := by
  unfold R_189_0 at e
  obtain ⟨x, h2, e1, e2⟩ := bndI_s e
  refine k_189_0 (by omega) (t_186 e1) ?_
  rintro _ _ ⟨rfl, rfl⟩
  exact r_189_15 hd hq e2
noncomputable def S_189 (v0 : Int32) (v1 : Int32) (v2 : Int32) (v3 : Int32) (h : Hp) : Option (Int32 × Hp) := R_189_0 v0 v1 v2 v3 h
set_option maxRecDepth 100000 in
theorem t_189 {v0 : Int32} {v1 : Int32} {v2 : Int32} {v3 : Int32} {h : Hp} {r : Int32 × Hp} (e : S_189 v0 v1 v2 v3 h = some r) : CI 2 189 [.int v0, .int v1, .int v2, .int v3] h (fun x g => x = r.1 ∧ g = r.2) := by
  refine C.of mo_189 (Nat.le_of_ble_eq_true rfl) (fun X hq => ?_)
  exact r_189_0 (Nat.le_refl _) (hq _ _ ⟨_, rfl, rfl, rfl⟩) e
/-! 188 PlayedTruthModel.draws(I)I -/
noncomputable def R_188_34 (s1 : Int32) (s2 : Nat) (s3 : Int32) (s0 : Int32) (h : Hp) : Option (Int32 × Hp) := gd (IA s2 (s1 + s0)) (some ((s3 + (h s2 (Int32.toNatClampNeg (s1 + s0)))), h))
theorem r_188_34 {X : GX} {d : Nat} {r : Int32 × Hp} (hd : 3 ≤ d) (hq : RtX X (some (.int r.1)) r.2) {h : Hp} {s1 : Int32} {s2 : Nat} {s3 : Int32} {s0 : Int32} (e : R_188_34 s1 s2 s3 s0 h = some r) : G X d 188 34 [none, none] [.int s0, .int s1, .ref s2, .int s3] h := by
  unfold R_188_34 at e
  have g := gd_s e; clear e; obtain ⟨b0, e⟩ := g
  rw [← Option.some.inj e] at hq
  exact k_188_34 b0 hq
noncomputable def R_188_22 (v1 : Int32) (s0 : Int32) (h : Hp) : Option (Int32 × Hp) := bndI (S_182 v1 3 h) (R_188_34 23 85 s0)
theorem r_188_22 {X : GX} {d : Nat} {r : Int32 × Hp} (hd : 3 ≤ d) (hq : RtX X (some (.int r.1)) r.2) {h : Hp} {v1 : Int32} {s0 : Int32} (e : R_188_22 v1 s0 h = some r) : G X d 188 22 [some (.ref 84), some (.int v1)] [.int s0] h := by
  unfold R_188_22 at e
  obtain ⟨x, h2, e1, e2⟩ := bndI_s e
  refine k_188_22 (by omega) (t_182 e1) ?_
  rintro _ _ ⟨rfl, rfl⟩
  exact r_188_34 hd hq e2
noncomputable def R_188_18 (v1 : Int32) (s1 : Int32) (s2 : Int32) (s0 : Int32) (h : Hp) : Option (Int32 × Hp) := bndI (S_189 s2 s1 s0 v1 h) (R_188_22 v1)
theorem r_188_18 {X : GX} {d : Nat} {r : Int32 × Hp} (hd : 3 ≤ d) (hq : RtX X (some (.int r.1)) r.2) {h : Hp} {v1 : Int32} {s1 : Int32} {s2 : Int32} {s0 : Int32} (e : R_188_18 v1 s1 s2 s0 h = some r) : G X d 188 18 [some (.ref 84), some (.int v1)] [.int s0, .int s1, .int s2] h := by
  unfold R_188_18 at e
  obtain ⟨x, h2, e1, e2⟩ := bndI_s e
  refine k_188_18 (by omega) (t_189 e1) ?_
  rintro _ _ ⟨rfl, rfl⟩
  exact r_188_22 hd hq e2
noncomputable def R_188_12 (v1 : Int32) (s1 : Int32) (s0 : Int32) (h : Hp) : Option (Int32 × Hp) := bndI (S_182 v1 1 h) (R_188_18 v1 s0 s1)
theorem r_188_12 {X : GX} {d : Nat} {r : Int32 × Hp} (hd : 3 ≤ d) (hq : RtX X (some (.int r.1)) r.2) {h : Hp} {v1 : Int32} {s1 : Int32} {s0 : Int32} (e : R_188_12 v1 s1 s0 h = some r) : G X d 188 12 [some (.ref 84), some (.int v1)] [.int s0, .int s1] h := by
  unfold R_188_12 at e
  obtain ⟨x, h2, e1, e2⟩ := bndI_s e
  refine k_188_12 (by omega) (t_182 e1) ?_
  rintro _ _ ⟨rfl, rfl⟩
  exact r_188_18 hd hq e2
noncomputable def R_188_6 (v1 : Int32) (s0 : Int32) (h : Hp) : Option (Int32 × Hp) := bndI (S_182 v1 2 h) (R_188_12 v1 s0)
theorem r_188_6 {X : GX} {d : Nat} {r : Int32 × Hp} (hd : 3 ≤ d) (hq : RtX X (some (.int r.1)) r.2) {h : Hp} {v1 : Int32} {s0 : Int32} (e : R_188_6 v1 s0 h = some r) : G X d 188 6 [some (.ref 84), some (.int v1)] [.int s0] h := by
  unfold R_188_6 at e
  obtain ⟨x, h2, e1, e2⟩ := bndI_s e
  refine k_188_6 (by omega) (t_182 e1) ?_
  rintro _ _ ⟨rfl, rfl⟩
  exact r_188_12 hd hq e2
noncomputable def R_188_0 (v1 : Int32) (h : Hp) : Option (Int32 × Hp) := bndI (S_182 v1 0 h) (R_188_6 v1)
theorem r_188_0 {X : GX} {d : Nat} {r : Int32 × Hp} (hd : 3 ≤ d) (hq : RtX X (some (.int r.1)) r.2) {h : Hp} {v1 : Int32} (e : R_188_0 v1 h = some r) : G X d 188 0 [some (.ref 84), some (.int v1)] [] h := by
  unfold R_188_0 at e
  obtain ⟨x, h2, e1, e2⟩ := bndI_s e
  refine k_188_0 (by omega) (t_182 e1) ?_
  rintro _ _ ⟨rfl, rfl⟩
  exact r_188_6 hd hq e2
noncomputable def S_188 (v1 : Int32) (h : Hp) : Option (Int32 × Hp) := R_188_0 v1 h
set_option maxRecDepth 100000 in
theorem t_188 {v1 : Int32} {h : Hp} {r : Int32 × Hp} (e : S_188 v1 h = some r) : CI 3 188 [.ref 84, .int v1] h (fun x g => x = r.1 ∧ g = r.2) := by
  refine C.of mo_188 (Nat.le_of_ble_eq_true rfl) (fun X hq => ?_)
  exact r_188_0 (Nat.le_refl _) (hq _ _ ⟨_, rfl, rfl, rfl⟩) e
/-! 192 PlayedTruthModel.above(I)I -/
noncomputable def R_192_18 (h : Hp) : Option (Int32 × Hp) := some (0, h)
theorem r_192_18 {X : GX} {d : Nat} {r : Int32 × Hp} (hd : 1 ≤ d) (hq : RtX X (some (.int r.1)) r.2) {h : Hp} (e : R_192_18 h = some r) : G X d 192 18 [none] [] h := by
  unfold R_192_18 at e
  rw [← Option.some.inj e] at hq
  exact k_192_18 hq
noncomputable def R_192_14 (h : Hp) : Option (Int32 × Hp) := some (4, h)
theorem r_192_14 {X : GX} {d : Nat} {r : Int32 × Hp} (hd : 1 ≤ d) (hq : RtX X (some (.int r.1)) r.2) {h : Hp} (e : R_192_14 h = some r) : G X d 192 14 [none] [] h := by
  unfold R_192_14 at e
  rw [← Option.some.inj e] at hq
  exact k_192_14 hq
noncomputable def R_192_9 (v0 : Int32) (h : Hp) : Option (Int32 × Hp) := if v0 = 5 then R_192_14 h else R_192_18 h
theorem r_192_9 {X : GX} {d : Nat} {r : Int32 × Hp} (hd : 1 ≤ d) (hq : RtX X (some (.int r.1)) r.2) {h : Hp} {v0 : Int32} (e : R_192_9 v0 h = some r) : G X d 192 9 [some (.int v0)] [] h := by
  unfold R_192_9 at e
  refine k_192_9 (fun c => ?_) (fun c => ?_)
  · rw [if_neg c] at e; exact r_192_18 hd hq e
  · rw [if_pos c] at e; exact r_192_14 hd hq e
noncomputable def R_192_5 (h : Hp) : Option (Int32 × Hp) := some (2, h)
theorem r_192_5 {X : GX} {d : Nat} {r : Int32 × Hp} (hd : 1 ≤ d) (hq : RtX X (some (.int r.1)) r.2) {h : Hp} (e : R_192_5 h = some r) : G X d 192 5 [none] [] h := by
  unfold R_192_5 at e
  rw [← Option.some.inj e] at hq
  exact k_192_5 hq
noncomputable def R_192_0 (v0 : Int32) (h : Hp) : Option (Int32 × Hp) := if v0 = 3 then R_192_5 h else R_192_9 v0 h
theorem r_192_0 {X : GX} {d : Nat} {r : Int32 × Hp} (hd : 1 ≤ d) (hq : RtX X (some (.int r.1)) r.2) {h : Hp} {v0 : Int32} (e : R_192_0 v0 h = some r) : G X d 192 0 [some (.int v0)] [] h := by
  unfold R_192_0 at e
  refine k_192_0 (fun c => ?_) (fun c => ?_)
  · rw [if_neg c] at e; exact r_192_9 hd hq e
  · rw [if_pos c] at e; exact r_192_5 hd hq e
noncomputable def S_192 (v0 : Int32) (h : Hp) : Option (Int32 × Hp) := R_192_0 v0 h
set_option maxRecDepth 100000 in
theorem t_192 {v0 : Int32} {h : Hp} {r : Int32 × Hp} (e : S_192 v0 h = some r) : CI 1 192 [.int v0] h (fun x g => x = r.1 ∧ g = r.2) := by
  refine C.of mo_192 (Nat.le_of_ble_eq_true rfl) (fun X hq => ?_)
  exact r_192_0 (Nat.le_refl _) (hq _ _ ⟨_, rfl, rfl, rfl⟩) e
/-! 194 PlayedTruthModel.factOf(II)I -/
noncomputable def R_194_32 (h : Hp) : Option (Int32 × Hp) := gd (IA 85 1) (some ((h 85 (Int32.toNatClampNeg 1)), h))
theorem r_194_32 {X : GX} {d : Nat} {r : Int32 × Hp} (hd : 3 ≤ d) (hq : RtX X (some (.int r.1)) r.2) {h : Hp} (e : R_194_32 h = some r) : G X d 194 32 [some (.ref 84), none, none] [] h := by
  unfold R_194_32 at e
  have g := gd_s e; clear e; obtain ⟨b0, e⟩ := g
  rw [← Option.some.inj e] at hq
  exact k_194_32 b0 hq
noncomputable def R_194_45 (s0 : Int32) (h : Hp) : Option (Int32 × Hp) := some (s0, h)
theorem r_194_45 {X : GX} {d : Nat} {r : Int32 × Hp} (hd : 3 ≤ d) (hq : RtX X (some (.int r.1)) r.2) {h : Hp} {s0 : Int32} (e : R_194_45 s0 h = some r) : G X d 194 45 [none, none, none] [.int s0] h := by
  unfold R_194_45 at e
  rw [← Option.some.inj e] at hq
  exact k_194_45 hq
noncomputable def R_194_39 (v2 : Int32) (h : Hp) : Option (Int32 × Hp) := bndI (S_182 v2 1 h) (R_194_45)
theorem r_194_39 {X : GX} {d : Nat} {r : Int32 × Hp} (hd : 3 ≤ d) (hq : RtX X (some (.int r.1)) r.2) {h : Hp} {v2 : Int32} (e : R_194_39 v2 h = some r) : G X d 194 39 [some (.ref 84), none, some (.int v2)] [] h := by
  unfold R_194_39 at e
  obtain ⟨x, h2, e1, e2⟩ := bndI_s e
  refine k_194_39 (by omega) (t_182 e1) ?_
  rintro _ _ ⟨rfl, rfl⟩
  exact r_194_45 hd hq e2
noncomputable def R_194_52 (s0 : Int32) (h : Hp) : Option (Int32 × Hp) := some (s0, h)
theorem r_194_52 {X : GX} {d : Nat} {r : Int32 × Hp} (hd : 3 ≤ d) (hq : RtX X (some (.int r.1)) r.2) {h : Hp} {s0 : Int32} (e : R_194_52 s0 h = some r) : G X d 194 52 [none, none, none] [.int s0] h := by
  unfold R_194_52 at e
  rw [← Option.some.inj e] at hq
  exact k_194_52 hq
noncomputable def R_194_46 (v2 : Int32) (h : Hp) : Option (Int32 × Hp) := bndI (S_182 v2 2 h) (R_194_52)
theorem r_194_46 {X : GX} {d : Nat} {r : Int32 × Hp} (hd : 3 ≤ d) (hq : RtX X (some (.int r.1)) r.2) {h : Hp} {v2 : Int32} (e : R_194_46 v2 h = some r) : G X d 194 46 [some (.ref 84), none, some (.int v2)] [] h := by
  unfold R_194_46 at e
  obtain ⟨x, h2, e1, e2⟩ := bndI_s e
  refine k_194_46 (by omega) (t_182 e1) ?_
  rintro _ _ ⟨rfl, rfl⟩
  exact r_194_52 hd hq e2
noncomputable def R_194_57 (s0 : Int32) (h : Hp) : Option (Int32 × Hp) := some (s0, h)
theorem r_194_57 {X : GX} {d : Nat} {r : Int32 × Hp} (hd : 3 ≤ d) (hq : RtX X (some (.int r.1)) r.2) {h : Hp} {s0 : Int32} (e : R_194_57 s0 h = some r) : G X d 194 57 [none, none, none] [.int s0] h := by
  unfold R_194_57 at e
  rw [← Option.some.inj e] at hq
  exact k_194_57 hq
noncomputable def R_194_53 (h : Hp) : Option (Int32 × Hp) := bndI (S_183 h) (R_194_57)
theorem r_194_53 {X : GX} {d : Nat} {r : Int32 × Hp} (hd : 3 ≤ d) (hq : RtX X (some (.int r.1)) r.2) {h : Hp} (e : R_194_53 h = some r) : G X d 194 53 [some (.ref 84), none, none] [] h := by
  unfold R_194_53 at e
  obtain ⟨x, h2, e1, e2⟩ := bndI_s e
  refine k_194_53 (by omega) (t_183 e1) ?_
  rintro _ _ ⟨rfl, rfl⟩
  exact r_194_57 hd hq e2
noncomputable def R_194_58 (v2 : Int32) (h : Hp) : Option (Int32 × Hp) := some (v2, h)
theorem r_194_58 {X : GX} {d : Nat} {r : Int32 × Hp} (hd : 3 ≤ d) (hq : RtX X (some (.int r.1)) r.2) {h : Hp} {v2 : Int32} (e : R_194_58 v2 h = some r) : G X d 194 58 [none, none, some (.int v2)] [] h := by
  unfold R_194_58 at e
  rw [← Option.some.inj e] at hq
  exact k_194_58 hq
noncomputable def R_194_0 (v1 : Int32) (v2 : Int32) (h : Hp) : Option (Int32 × Hp) := if v1 = 0 then R_194_32 h else (if v1 = 1 then R_194_39 v2 h else (if v1 = 2 then R_194_46 v2 h else (if v1 = 3 then R_194_53 h else (R_194_58 v2 h))))
theorem r_194_0 {X : GX} {d : Nat} {r : Int32 × Hp} (hd : 3 ≤ d) (hq : RtX X (some (.int r.1)) r.2) {h : Hp} {v1 : Int32} {v2 : Int32} (e : R_194_0 v1 v2 h = some r) : G X d 194 0 [some (.ref 84), some (.int v1), some (.int v2)] [] h := by
  unfold R_194_0 at e
  refine k_194_0 (fun c => ?_) (fun c => ?_) (fun c => ?_) (fun c => ?_) (fun c0 c1 c2 c3 => ?_)
  · rw [if_pos c] at e; exact r_194_32 hd hq e
  · rw [if_neg (show ¬ v1 = 0 by rw [c]; decide), if_pos c] at e; exact r_194_39 hd hq e
  · rw [if_neg (show ¬ v1 = 0 by rw [c]; decide), if_neg (show ¬ v1 = 1 by rw [c]; decide), if_pos c] at e; exact r_194_46 hd hq e
  · rw [if_neg (show ¬ v1 = 0 by rw [c]; decide), if_neg (show ¬ v1 = 1 by rw [c]; decide), if_neg (show ¬ v1 = 2 by rw [c]; decide), if_pos c] at e; exact r_194_53 hd hq e
  · rw [if_neg c0, if_neg c1, if_neg c2, if_neg c3] at e; exact r_194_58 hd hq e
noncomputable def S_194 (v1 : Int32) (v2 : Int32) (h : Hp) : Option (Int32 × Hp) := R_194_0 v1 v2 h
set_option maxRecDepth 100000 in
theorem t_194 {v1 : Int32} {v2 : Int32} {h : Hp} {r : Int32 × Hp} (e : S_194 v1 v2 h = some r) : CI 3 194 [.ref 84, .int v1, .int v2] h (fun x g => x = r.1 ∧ g = r.2) := by
  refine C.of mo_194 (Nat.le_of_ble_eq_true rfl) (fun X hq => ?_)
  exact r_194_0 (Nat.le_refl _) (hq _ _ ⟨_, rfl, rfl, rfl⟩) e
/-! 195 PlayedTruthModel.done(III)I -/
noncomputable def R_195_77 (v1 : Int32) (v2 : Int32) (h : Hp) : Option (Int32 × Hp) := some ((v1 * v2), h)
theorem r_195_77 {X : GX} {d : Nat} {r : Int32 × Hp} (hd : 1 ≤ d) (hq : RtX X (some (.int r.1)) r.2) {h : Hp} {v1 : Int32} {v2 : Int32} (e : R_195_77 v1 v2 h = some r) : G X d 195 77 [none, some (.int v1), some (.int v2)] [] h := by
  unfold R_195_77 at e
  rw [← Option.some.inj e] at hq
  exact k_195_77 hq
noncomputable def R_195_53 (h : Hp) : Option (Int32 × Hp) := some (0, h)
theorem r_195_53 {X : GX} {d : Nat} {r : Int32 × Hp} (hd : 1 ≤ d) (hq : RtX X (some (.int r.1)) r.2) {h : Hp} (e : R_195_53 h = some r) : G X d 195 53 [none, none, none] [] h := by
  unfold R_195_53 at e
  rw [← Option.some.inj e] at hq
  exact k_195_53 hq
noncomputable def R_195_49 (h : Hp) : Option (Int32 × Hp) := some (1, h)
theorem r_195_49 {X : GX} {d : Nat} {r : Int32 × Hp} (hd : 1 ≤ d) (hq : RtX X (some (.int r.1)) r.2) {h : Hp} (e : R_195_49 h = some r) : G X d 195 49 [none, none, none] [] h := by
  unfold R_195_49 at e
  rw [← Option.some.inj e] at hq
  exact k_195_49 hq
noncomputable def R_195_44 (v1 : Int32) (v2 : Int32) (h : Hp) : Option (Int32 × Hp) := if v2 ≤ v1 then R_195_53 h else R_195_49 h
theorem r_195_44 {X : GX} {d : Nat} {r : Int32 × Hp} (hd : 1 ≤ d) (hq : RtX X (some (.int r.1)) r.2) {h : Hp} {v1 : Int32} {v2 : Int32} (e : R_195_44 v1 v2 h = some r) : G X d 195 44 [none, some (.int v1), some (.int v2)] [] h := by
  unfold R_195_44 at e
  refine k_195_44 (fun c => ?_) (fun c => ?_)
  · rw [if_pos c] at e; exact r_195_53 hd hq e
  · rw [if_neg c] at e; exact r_195_49 hd hq e
noncomputable def R_195_64 (h : Hp) : Option (Int32 × Hp) := some (0, h)
theorem r_195_64 {X : GX} {d : Nat} {r : Int32 × Hp} (hd : 1 ≤ d) (hq : RtX X (some (.int r.1)) r.2) {h : Hp} (e : R_195_64 h = some r) : G X d 195 64 [none, none, none] [] h := by
  unfold R_195_64 at e
  rw [← Option.some.inj e] at hq
  exact k_195_64 hq
noncomputable def R_195_60 (h : Hp) : Option (Int32 × Hp) := some (1, h)
theorem r_195_60 {X : GX} {d : Nat} {r : Int32 × Hp} (hd : 1 ≤ d) (hq : RtX X (some (.int r.1)) r.2) {h : Hp} (e : R_195_60 h = some r) : G X d 195 60 [none, none, none] [] h := by
  unfold R_195_60 at e
  rw [← Option.some.inj e] at hq
  exact k_195_60 hq
noncomputable def R_195_55 (v1 : Int32) (v2 : Int32) (h : Hp) : Option (Int32 × Hp) := if v1 = v2 then R_195_60 h else R_195_64 h
theorem r_195_55 {X : GX} {d : Nat} {r : Int32 × Hp} (hd : 1 ≤ d) (hq : RtX X (some (.int r.1)) r.2) {h : Hp} {v1 : Int32} {v2 : Int32} (e : R_195_55 v1 v2 h = some r) : G X d 195 55 [none, some (.int v1), some (.int v2)] [] h := by
  unfold R_195_55 at e
  refine k_195_55 (fun c => ?_) (fun c => ?_)
  · rw [if_neg c] at e; exact r_195_64 hd hq e
  · rw [if_pos c] at e; exact r_195_60 hd hq e
noncomputable def R_195_75 (h : Hp) : Option (Int32 × Hp) := some (0, h)
theorem r_195_75 {X : GX} {d : Nat} {r : Int32 × Hp} (hd : 1 ≤ d) (hq : RtX X (some (.int r.1)) r.2) {h : Hp} (e : R_195_75 h = some r) : G X d 195 75 [none, none, none] [] h := by
  unfold R_195_75 at e
  rw [← Option.some.inj e] at hq
  exact k_195_75 hq
noncomputable def R_195_71 (h : Hp) : Option (Int32 × Hp) := some (1, h)
theorem r_195_71 {X : GX} {d : Nat} {r : Int32 × Hp} (hd : 1 ≤ d) (hq : RtX X (some (.int r.1)) r.2) {h : Hp} (e : R_195_71 h = some r) : G X d 195 71 [none, none, none] [] h := by
  unfold R_195_71 at e
  rw [← Option.some.inj e] at hq
  exact k_195_71 hq
noncomputable def R_195_66 (v1 : Int32) (v2 : Int32) (h : Hp) : Option (Int32 × Hp) := if v1 ≤ v2 then R_195_75 h else R_195_71 h
theorem r_195_66 {X : GX} {d : Nat} {r : Int32 × Hp} (hd : 1 ≤ d) (hq : RtX X (some (.int r.1)) r.2) {h : Hp} {v1 : Int32} {v2 : Int32} (e : R_195_66 v1 v2 h = some r) : G X d 195 66 [none, some (.int v1), some (.int v2)] [] h := by
  unfold R_195_66 at e
  refine k_195_66 (fun c => ?_) (fun c => ?_)
  · rw [if_pos c] at e; exact r_195_75 hd hq e
  · rw [if_neg c] at e; exact r_195_71 hd hq e
noncomputable def R_195_91 (h : Hp) : Option (Int32 × Hp) := some (0, h)
theorem r_195_91 {X : GX} {d : Nat} {r : Int32 × Hp} (hd : 1 ≤ d) (hq : RtX X (some (.int r.1)) r.2) {h : Hp} (e : R_195_91 h = some r) : G X d 195 91 [none, none, none] [] h := by
  unfold R_195_91 at e
  rw [← Option.some.inj e] at hq
  exact k_195_91 hq
noncomputable def R_195_87 (h : Hp) : Option (Int32 × Hp) := some (1, h)
theorem r_195_87 {X : GX} {d : Nat} {r : Int32 × Hp} (hd : 1 ≤ d) (hq : RtX X (some (.int r.1)) r.2) {h : Hp} (e : R_195_87 h = some r) : G X d 195 87 [none, none, none] [] h := by
  unfold R_195_87 at e
  rw [← Option.some.inj e] at hq
  exact k_195_87 hq
noncomputable def R_195_81 (v1 : Int32) (v2 : Int32) (h : Hp) : Option (Int32 × Hp) := if (v1 + v2) ≤ 0 then R_195_91 h else R_195_87 h
theorem r_195_81 {X : GX} {d : Nat} {r : Int32 × Hp} (hd : 1 ≤ d) (hq : RtX X (some (.int r.1)) r.2) {h : Hp} {v1 : Int32} {v2 : Int32} (e : R_195_81 v1 v2 h = some r) : G X d 195 81 [none, some (.int v1), some (.int v2)] [] h := by
  unfold R_195_81 at e
  refine k_195_81 (fun c => ?_) (fun c => ?_)
  · rw [if_pos c] at e; exact r_195_91 hd hq e
  · rw [if_neg c] at e; exact r_195_87 hd hq e
noncomputable def R_195_0 (v0 : Int32) (v1 : Int32) (v2 : Int32) (h : Hp) : Option (Int32 × Hp) := if v0 = 38 then R_195_77 v1 v2 h else (if v0 = 60 then R_195_44 v1 v2 h else (if v0 = 61 then R_195_55 v1 v2 h else (if v0 = 62 then R_195_66 v1 v2 h else (R_195_81 v1 v2 h))))
theorem r_195_0 {X : GX} {d : Nat} {r : Int32 × Hp} (hd : 1 ≤ d) (hq : RtX X (some (.int r.1)) r.2) {h : Hp} {v0 : Int32} {v1 : Int32} {v2 : Int32} (e : R_195_0 v0 v1 v2 h = some r) : G X d 195 0 [some (.int v0), some (.int v1), some (.int v2)] [] h := by
  unfold R_195_0 at e
  refine k_195_0 (fun c => ?_) (fun c => ?_) (fun c => ?_) (fun c => ?_) (fun c0 c1 c2 c3 => ?_)
  · rw [if_pos c] at e; exact r_195_77 hd hq e
  · rw [if_neg (show ¬ v0 = 38 by rw [c]; decide), if_pos c] at e; exact r_195_44 hd hq e
  · rw [if_neg (show ¬ v0 = 38 by rw [c]; decide), if_neg (show ¬ v0 = 60 by rw [c]; decide), if_pos c] at e; exact r_195_55 hd hq e
  · rw [if_neg (show ¬ v0 = 38 by rw [c]; decide), if_neg (show ¬ v0 = 60 by rw [c]; decide), if_neg (show ¬ v0 = 61 by rw [c]; decide), if_pos c] at e; exact r_195_66 hd hq e
  · rw [if_neg c0, if_neg c1, if_neg c2, if_neg c3] at e; exact r_195_81 hd hq e
noncomputable def S_195 (v0 : Int32) (v1 : Int32) (v2 : Int32) (h : Hp) : Option (Int32 × Hp) := R_195_0 v0 v1 v2 h
set_option maxRecDepth 100000 in
theorem t_195 {v0 : Int32} {v1 : Int32} {v2 : Int32} {h : Hp} {r : Int32 × Hp} (e : S_195 v0 v1 v2 h = some r) : CI 1 195 [.int v0, .int v1, .int v2] h (fun x g => x = r.1 ∧ g = r.2) := by
  refine C.of mo_195 (Nat.le_of_ble_eq_true rfl) (fun X hq => ?_)
  exact r_195_0 (Nat.le_refl _) (hq _ _ ⟨_, rfl, rfl, rfl⟩) e
/-! 193 PlayedTruthModel.holds(III)Z -/
noncomputable def R_193_164 (h : Hp) : Option (Int32 × Hp) := some (0, h)
theorem r_193_164 {X : GX} {d : Nat} {r : Int32 × Hp} (hd : 4 ≤ d) (hq : RtX X (some (.int r.1)) r.2) {h : Hp} (e : R_193_164 h = some r) : G X d 193 164 [none, none, none, none, none, none, none] [] h := by
  unfold R_193_164 at e
  rw [← Option.some.inj e] at hq
  exact k_193_164 hq
noncomputable def R_193_160 (h : Hp) : Option (Int32 × Hp) := some (1, h)
theorem r_193_160 {X : GX} {d : Nat} {r : Int32 × Hp} (hd : 4 ≤ d) (hq : RtX X (some (.int r.1)) r.2) {h : Hp} (e : R_193_160 h = some r) : G X d 193 160 [none, none, none, none, none, none, none] [] h := by
  unfold R_193_160 at e
  rw [← Option.some.inj e] at hq
  exact k_193_160 hq
noncomputable def R_193_150 (h : Hp) : Option (Int32 × Hp) := gd (IA 88 0) (if (h 88 (Int32.toNatClampNeg 0)) = 1 then R_193_160 h else R_193_164 h)
theorem r_193_150 {X : GX} {d : Nat} {r : Int32 × Hp} (hd : 4 ≤ d) (hq : RtX X (some (.int r.1)) r.2) {h : Hp} (e : R_193_150 h = some r) : G X d 193 150 [some (.ref 84), none, none, none, none, none, none] [] h := by
  unfold R_193_150 at e
  have g := gd_s e; clear e; obtain ⟨b0, e⟩ := g
  refine k_193_150 b0 (fun c => ?_) (fun c => ?_)
  · rw [if_neg c] at e; exact r_193_164 hd hq e
  · rw [if_pos c] at e; exact r_193_160 hd hq e
noncomputable def R_193_143 (rec_13 : Int32 → Int32 → Int32 → Int32 → Hp → Option (Int32 × Hp)) (v2 : Int32) (v3 : Int32) (v4 : Int32) (v5 : Int32) (s1 : Int32) (s2 : Nat) (s0 : Int32) (h : Hp) : Option (Int32 × Hp) := gd (IA s2 s1) (rec_13 v2 v3 v4 (v5 + 1) ((wr h s2 (Int32.toNatClampNeg s1) s0)))
theorem r_193_143 {X : GX} {d : Nat} {r : Int32 × Hp} (hd : 4 ≤ d) (hq : RtX X (some (.int r.1)) r.2) {rec_13 : Int32 → Int32 → Int32 → Int32 → Hp → Option (Int32 × Hp)} (hr_13 : ∀ {v2 : Int32} {v3 : Int32} {v4 : Int32} {v5 : Int32} {h : Hp}, rec_13 v2 v3 v4 v5 h = some r → G X d 193 13 [some (.ref 84), none, some (.int v2), some (.int v3), some (.int v4), some (.int v5), none] [] h) {h : Hp} {v2 : Int32} {v3 : Int32} {v4 : Int32} {v5 : Int32} {s1 : Int32} {s2 : Nat} {s0 : Int32} (e : R_193_143 rec_13 v2 v3 v4 v5 s1 s2 s0 h = some r) : G X d 193 143 [some (.ref 84), none, some (.int v2), some (.int v3), some (.int v4), some (.int v5), none] [.int s0, .int s1, .ref s2] h := by
  unfold R_193_143 at e
  have g := gd_s e; clear e; obtain ⟨b0, e⟩ := g
  exact k_193_143 b0 (hr_13 e)
noncomputable def R_193_107 (rec_13 : Int32 → Int32 → Int32 → Int32 → Hp → Option (Int32 × Hp)) (v2 : Int32) (v3 : Int32) (v4 : Int32) (v5 : Int32) (v6 : Int32) (h : Hp) : Option (Int32 × Hp) := gd (IA 88 ((v4 + (-1)) - 1) ∧ IA 88 (v4 + (-1))) (bndI (S_195 (v6 - 20000) (h 88 (Int32.toNatClampNeg ((v4 + (-1)) - 1))) (h 88 (Int32.toNatClampNeg (v4 + (-1)))) h) (R_193_143 rec_13 v2 v3 (v4 + (-1)) v5 ((v4 + (-1)) - 1) 88))
theorem r_193_107 {X : GX} {d : Nat} {r : Int32 × Hp} (hd : 4 ≤ d) (hq : RtX X (some (.int r.1)) r.2) {rec_13 : Int32 → Int32 → Int32 → Int32 → Hp → Option (Int32 × Hp)} (hr_13 : ∀ {v2 : Int32} {v3 : Int32} {v4 : Int32} {v5 : Int32} {h : Hp}, rec_13 v2 v3 v4 v5 h = some r → G X d 193 13 [some (.ref 84), none, some (.int v2), some (.int v3), some (.int v4), some (.int v5), none] [] h) {h : Hp} {v2 : Int32} {v3 : Int32} {v4 : Int32} {v5 : Int32} {v6 : Int32} (e : R_193_107 rec_13 v2 v3 v4 v5 v6 h = some r) : G X d 193 107 [some (.ref 84), none, some (.int v2), some (.int v3), some (.int v4), some (.int v5), some (.int v6)] [] h := by
  unfold R_193_107 at e
  have g := gd_s e; clear e; obtain ⟨⟨b0, b1⟩, e⟩ := g
  obtain ⟨x, h2, e1, e2⟩ := bndI_s e
  refine k_193_107 b0 b1 (by omega) (t_195 e1) ?_
  rintro _ _ ⟨rfl, rfl⟩
  exact r_193_143 hd hq hr_13 e2
noncomputable def R_193_84 (rec_13 : Int32 → Int32 → Int32 → Int32 → Hp → Option (Int32 × Hp)) (v2 : Int32) (v3 : Int32) (v4 : Int32) (v5 : Int32) (h : Hp) : Option (Int32 × Hp) := gd (IA 88 (v4 - 1)) (rec_13 v2 v3 v4 (v5 + 1) ((wr h 88 (Int32.toNatClampNeg (v4 - 1)) (1 - (h 88 (Int32.toNatClampNeg (v4 - 1)))))))
theorem r_193_84 {X : GX} {d : Nat} {r : Int32 × Hp} (hd : 4 ≤ d) (hq : RtX X (some (.int r.1)) r.2) {rec_13 : Int32 → Int32 → Int32 → Int32 → Hp → Option (Int32 × Hp)} (hr_13 : ∀ {v2 : Int32} {v3 : Int32} {v4 : Int32} {v5 : Int32} {h : Hp}, rec_13 v2 v3 v4 v5 h = some r → G X d 193 13 [some (.ref 84), none, some (.int v2), some (.int v3), some (.int v4), some (.int v5), none] [] h) {h : Hp} {v2 : Int32} {v3 : Int32} {v4 : Int32} {v5 : Int32} (e : R_193_84 rec_13 v2 v3 v4 v5 h = some r) : G X d 193 84 [some (.ref 84), none, some (.int v2), some (.int v3), some (.int v4), some (.int v5), none] [] h := by
  unfold R_193_84 at e
  have g := gd_s e; clear e; obtain ⟨b0, e⟩ := g
  exact k_193_84 b0 (hr_13 e)
noncomputable def R_193_76 (rec_13 : Int32 → Int32 → Int32 → Int32 → Hp → Option (Int32 × Hp)) (v2 : Int32) (v3 : Int32) (v4 : Int32) (v5 : Int32) (v6 : Int32) (h : Hp) : Option (Int32 × Hp) := if v6 = 20033 then R_193_84 rec_13 v2 v3 v4 v5 h else R_193_107 rec_13 v2 v3 v4 v5 v6 h
theorem r_193_76 {X : GX} {d : Nat} {r : Int32 × Hp} (hd : 4 ≤ d) (hq : RtX X (some (.int r.1)) r.2) {rec_13 : Int32 → Int32 → Int32 → Int32 → Hp → Option (Int32 × Hp)} (hr_13 : ∀ {v2 : Int32} {v3 : Int32} {v4 : Int32} {v5 : Int32} {h : Hp}, rec_13 v2 v3 v4 v5 h = some r → G X d 193 13 [some (.ref 84), none, some (.int v2), some (.int v3), some (.int v4), some (.int v5), none] [] h) {h : Hp} {v2 : Int32} {v3 : Int32} {v4 : Int32} {v5 : Int32} {v6 : Int32} (e : R_193_76 rec_13 v2 v3 v4 v5 v6 h = some r) : G X d 193 76 [some (.ref 84), none, some (.int v2), some (.int v3), some (.int v4), some (.int v5), some (.int v6)] [] h := by
  unfold R_193_76 at e
  refine k_193_76 (fun c => ?_) (fun c => ?_)
  · rw [if_neg c] at e; exact r_193_107 hd hq hr_13 e
  · rw [if_pos c] at e; exact r_193_84 hd hq hr_13 e
noncomputable def R_193_69 (rec_13 : Int32 → Int32 → Int32 → Int32 → Hp → Option (Int32 × Hp)) (v2 : Int32) (v3 : Int32) (v4 : Int32) (v5 : Int32) (s1 : Int32) (s2 : Nat) (s0 : Int32) (h : Hp) : Option (Int32 × Hp) := gd (IA s2 s1) (rec_13 v2 v3 (v4 + 1) (v5 + 1) ((wr h s2 (Int32.toNatClampNeg s1) s0)))
theorem r_193_69 {X : GX} {d : Nat} {r : Int32 × Hp} (hd : 4 ≤ d) (hq : RtX X (some (.int r.1)) r.2) {rec_13 : Int32 → Int32 → Int32 → Int32 → Hp → Option (Int32 × Hp)} (hr_13 : ∀ {v2 : Int32} {v3 : Int32} {v4 : Int32} {v5 : Int32} {h : Hp}, rec_13 v2 v3 v4 v5 h = some r → G X d 193 13 [some (.ref 84), none, some (.int v2), some (.int v3), some (.int v4), some (.int v5), none] [] h) {h : Hp} {v2 : Int32} {v3 : Int32} {v4 : Int32} {v5 : Int32} {s1 : Int32} {s2 : Nat} {s0 : Int32} (e : R_193_69 rec_13 v2 v3 v4 v5 s1 s2 s0 h = some r) : G X d 193 69 [some (.ref 84), none, some (.int v2), some (.int v3), some (.int v4), some (.int v5), none] [.int s0, .int s1, .ref s2] h := by
  unfold R_193_69 at e
  have g := gd_s e; clear e; obtain ⟨b0, e⟩ := g
  exact k_193_69 b0 (hr_13 e)
noncomputable def R_193_58 (rec_13 : Int32 → Int32 → Int32 → Int32 → Hp → Option (Int32 × Hp)) (v2 : Int32) (v3 : Int32) (v4 : Int32) (v5 : Int32) (v6 : Int32) (s1 : Nat) (s0 : Int32) (h : Hp) : Option (Int32 × Hp) := bndI (S_194 (v6 - 10000) v3 h) (R_193_69 rec_13 v2 v3 v4 v5 s0 s1)
theorem r_193_58 {X : GX} {d : Nat} {r : Int32 × Hp} (hd : 4 ≤ d) (hq : RtX X (some (.int r.1)) r.2) {rec_13 : Int32 → Int32 → Int32 → Int32 → Hp → Option (Int32 × Hp)} (hr_13 : ∀ {v2 : Int32} {v3 : Int32} {v4 : Int32} {v5 : Int32} {h : Hp}, rec_13 v2 v3 v4 v5 h = some r → G X d 193 13 [some (.ref 84), none, some (.int v2), some (.int v3), some (.int v4), some (.int v5), none] [] h) {h : Hp} {v2 : Int32} {v3 : Int32} {v4 : Int32} {v5 : Int32} {v6 : Int32} {s1 : Nat} {s0 : Int32} (e : R_193_58 rec_13 v2 v3 v4 v5 v6 s1 s0 h = some r) : G X d 193 58 [some (.ref 84), none, some (.int v2), some (.int v3), some (.int v4), some (.int v5), some (.int v6)] [.int s0, .ref s1] h := by
  unfold R_193_58 at e
  obtain ⟨x, h2, e1, e2⟩ := bndI_s e
  refine k_193_58 (by omega) (t_194 e1) ?_
  rintro _ _ ⟨rfl, rfl⟩
  exact r_193_69 hd hq hr_13 e2
noncomputable def R_193_53 (rec_13 : Int32 → Int32 → Int32 → Int32 → Hp → Option (Int32 × Hp)) (v2 : Int32) (v3 : Int32) (v4 : Int32) (v5 : Int32) (v6 : Int32) (s1 : Nat) (s0 : Int32) (h : Hp) : Option (Int32 × Hp) := gd (IA s1 s0) (rec_13 v2 v3 (v4 + 1) (v5 + 1) ((wr h s1 (Int32.toNatClampNeg s0) v6)))
theorem r_193_53 {X : GX} {d : Nat} {r : Int32 × Hp} (hd : 4 ≤ d) (hq : RtX X (some (.int r.1)) r.2) {rec_13 : Int32 → Int32 → Int32 → Int32 → Hp → Option (Int32 × Hp)} (hr_13 : ∀ {v2 : Int32} {v3 : Int32} {v4 : Int32} {v5 : Int32} {h : Hp}, rec_13 v2 v3 v4 v5 h = some r → G X d 193 13 [some (.ref 84), none, some (.int v2), some (.int v3), some (.int v4), some (.int v5), none] [] h) {h : Hp} {v2 : Int32} {v3 : Int32} {v4 : Int32} {v5 : Int32} {v6 : Int32} {s1 : Nat} {s0 : Int32} (e : R_193_53 rec_13 v2 v3 v4 v5 v6 s1 s0 h = some r) : G X d 193 53 [some (.ref 84), none, some (.int v2), some (.int v3), some (.int v4), some (.int v5), some (.int v6)] [.int s0, .ref s1] h := by
  unfold R_193_53 at e
  have g := gd_s e; clear e; obtain ⟨b0, e⟩ := g
  exact k_193_53 b0 (hr_13 e)
noncomputable def R_193_39 (rec_13 : Int32 → Int32 → Int32 → Int32 → Hp → Option (Int32 × Hp)) (v2 : Int32) (v3 : Int32) (v4 : Int32) (v5 : Int32) (v6 : Int32) (h : Hp) : Option (Int32 × Hp) := if 10000 ≤ v6 then R_193_58 rec_13 v2 v3 v4 v5 v6 88 v4 h else R_193_53 rec_13 v2 v3 v4 v5 v6 88 v4 h
theorem r_193_39 {X : GX} {d : Nat} {r : Int32 × Hp} (hd : 4 ≤ d) (hq : RtX X (some (.int r.1)) r.2) {rec_13 : Int32 → Int32 → Int32 → Int32 → Hp → Option (Int32 × Hp)} (hr_13 : ∀ {v2 : Int32} {v3 : Int32} {v4 : Int32} {v5 : Int32} {h : Hp}, rec_13 v2 v3 v4 v5 h = some r → G X d 193 13 [some (.ref 84), none, some (.int v2), some (.int v3), some (.int v4), some (.int v5), none] [] h) {h : Hp} {v2 : Int32} {v3 : Int32} {v4 : Int32} {v5 : Int32} {v6 : Int32} (e : R_193_39 rec_13 v2 v3 v4 v5 v6 h = some r) : G X d 193 39 [some (.ref 84), none, some (.int v2), some (.int v3), some (.int v4), some (.int v5), some (.int v6)] [] h := by
  unfold R_193_39 at e
  refine k_193_39 (fun c => ?_) (fun c => ?_)
  · rw [if_pos c] at e; exact r_193_58 hd hq hr_13 e
  · rw [if_neg c] at e; exact r_193_53 hd hq hr_13 e
noncomputable def R_193_19 (rec_13 : Int32 → Int32 → Int32 → Int32 → Hp → Option (Int32 × Hp)) (v2 : Int32) (v3 : Int32) (v4 : Int32) (v5 : Int32) (h : Hp) : Option (Int32 × Hp) := gd (IA 85 (121 + v5)) (if 20000 ≤ (h 85 (Int32.toNatClampNeg (121 + v5))) then R_193_76 rec_13 v2 v3 v4 v5 (h 85 (Int32.toNatClampNeg (121 + v5))) h else R_193_39 rec_13 v2 v3 v4 v5 (h 85 (Int32.toNatClampNeg (121 + v5))) h)
theorem r_193_19 {X : GX} {d : Nat} {r : Int32 × Hp} (hd : 4 ≤ d) (hq : RtX X (some (.int r.1)) r.2) {rec_13 : Int32 → Int32 → Int32 → Int32 → Hp → Option (Int32 × Hp)} (hr_13 : ∀ {v2 : Int32} {v3 : Int32} {v4 : Int32} {v5 : Int32} {h : Hp}, rec_13 v2 v3 v4 v5 h = some r → G X d 193 13 [some (.ref 84), none, some (.int v2), some (.int v3), some (.int v4), some (.int v5), none] [] h) {h : Hp} {v2 : Int32} {v3 : Int32} {v4 : Int32} {v5 : Int32} (e : R_193_19 rec_13 v2 v3 v4 v5 h = some r) : G X d 193 19 [some (.ref 84), none, some (.int v2), some (.int v3), some (.int v4), some (.int v5), none] [] h := by
  unfold R_193_19 at e
  have g := gd_s e; clear e; obtain ⟨b0, e⟩ := g
  refine k_193_19 b0 (fun c => ?_) (fun c => ?_)
  · rw [if_pos c] at e; exact r_193_76 hd hq hr_13 e
  · rw [if_neg c] at e; exact r_193_39 hd hq hr_13 e
noncomputable def R_193_13 (rec_13 : Int32 → Int32 → Int32 → Int32 → Hp → Option (Int32 × Hp)) (v2 : Int32) (v3 : Int32) (v4 : Int32) (v5 : Int32) (h : Hp) : Option (Int32 × Hp) := if v2 ≤ v5 then R_193_150 h else R_193_19 rec_13 v2 v3 v4 v5 h
theorem r_193_13 {X : GX} {d : Nat} {r : Int32 × Hp} (hd : 4 ≤ d) (hq : RtX X (some (.int r.1)) r.2) {rec_13 : Int32 → Int32 → Int32 → Int32 → Hp → Option (Int32 × Hp)} (hr_13 : ∀ {v2 : Int32} {v3 : Int32} {v4 : Int32} {v5 : Int32} {h : Hp}, rec_13 v2 v3 v4 v5 h = some r → G X d 193 13 [some (.ref 84), none, some (.int v2), some (.int v3), some (.int v4), some (.int v5), none] [] h) {h : Hp} {v2 : Int32} {v3 : Int32} {v4 : Int32} {v5 : Int32} (e : R_193_13 rec_13 v2 v3 v4 v5 h = some r) : G X d 193 13 [some (.ref 84), none, some (.int v2), some (.int v3), some (.int v4), some (.int v5), none] [] h := by
  unfold R_193_13 at e
  refine k_193_13 (fun c => ?_) (fun c => ?_)
  · rw [if_pos c] at e; exact r_193_150 hd hq e
  · rw [if_neg c] at e; exact r_193_19 hd hq hr_13 e
noncomputable def H_193_13 : Nat → Int32 → Int32 → Int32 → Int32 → Hp → Option (Int32 × Hp)
  | 0, _, _, _, _, _ => none
  | n + 1, v2, v3, v4, v5, h => R_193_13 (H_193_13 n) v2 v3 v4 v5 h
theorem h_193_13 {X : GX} {d : Nat} {r : Int32 × Hp} (hd : 4 ≤ d) (hq : RtX X (some (.int r.1)) r.2) {n : Nat} {h : Hp} {v2 : Int32} {v3 : Int32} {v4 : Int32} {v5 : Int32} (e : H_193_13 n v2 v3 v4 v5 h = some r) : G X d 193 13 [some (.ref 84), none, some (.int v2), some (.int v3), some (.int v4), some (.int v5), none] [] h := by
  induction n generalizing v2 v3 v4 v5 h with
  | zero => cases e
  | succ n ih => exact r_193_13 hd hq (fun e => ih e) e
noncomputable def R_193_7 (v1 : Int32) (v2 : Int32) (v3 : Int32) (h : Hp) : Option (Int32 × Hp) := H_193_13 fuL v2 v3 0 v1 h
theorem r_193_7 {X : GX} {d : Nat} {r : Int32 × Hp} (hd : 4 ≤ d) (hq : RtX X (some (.int r.1)) r.2) {h : Hp} {v1 : Int32} {v2 : Int32} {v3 : Int32} (e : R_193_7 v1 v2 v3 h = some r) : G X d 193 7 [some (.ref 84), some (.int v1), some (.int v2), some (.int v3), none, none, none] [] h := by
  unfold R_193_7 at e
  exact k_193_7 (h_193_13 hd hq e)
noncomputable def R_193_5 (h : Hp) : Option (Int32 × Hp) := some (1, h)
theorem r_193_5 {X : GX} {d : Nat} {r : Int32 × Hp} (hd : 4 ≤ d) (hq : RtX X (some (.int r.1)) r.2) {h : Hp} (e : R_193_5 h = some r) : G X d 193 5 [none, none, none, none, none, none, none] [] h := by
  unfold R_193_5 at e
  rw [← Option.some.inj e] at hq
  exact k_193_5 hq
noncomputable def R_193_0 (v1 : Int32) (v2 : Int32) (v3 : Int32) (h : Hp) : Option (Int32 × Hp) := if v1 = v2 then R_193_5 h else R_193_7 v1 v2 v3 h
theorem r_193_0 {X : GX} {d : Nat} {r : Int32 × Hp} (hd : 4 ≤ d) (hq : RtX X (some (.int r.1)) r.2) {h : Hp} {v1 : Int32} {v2 : Int32} {v3 : Int32} (e : R_193_0 v1 v2 v3 h = some r) : G X d 193 0 [some (.ref 84), some (.int v1), some (.int v2), some (.int v3), none, none, none] [] h := by
  unfold R_193_0 at e
  refine k_193_0 (fun c => ?_) (fun c => ?_)
  · rw [if_neg c] at e; exact r_193_7 hd hq e
  · rw [if_pos c] at e; exact r_193_5 hd hq e
noncomputable def S_193 (v1 : Int32) (v2 : Int32) (v3 : Int32) (h : Hp) : Option (Int32 × Hp) := R_193_0 v1 v2 v3 h
set_option maxRecDepth 100000 in
theorem t_193 {v1 : Int32} {v2 : Int32} {v3 : Int32} {h : Hp} {r : Int32 × Hp} (e : S_193 v1 v2 v3 h = some r) : CI 4 193 [.ref 84, .int v1, .int v2, .int v3] h (fun x g => x = r.1 ∧ g = r.2) := by
  refine C.of mo_193 (Nat.le_of_ble_eq_true rfl) (fun X hq => ?_)
  exact r_193_0 (Nat.le_refl _) (hq _ _ ⟨_, rfl, rfl, rfl⟩) e
/-! 191 PlayedTruthModel.will(I)I -/
noncomputable def R_191_105 (h : Hp) : Option (Int32 × Hp) := some (0, h)
theorem r_191_105 {X : GX} {d : Nat} {r : Int32 × Hp} (hd : 5 ≤ d) (hq : RtX X (some (.int r.1)) r.2) {h : Hp} (e : R_191_105 h = some r) : G X d 191 105 [none, none, none, none] [] h := by
  unfold R_191_105 at e
  rw [← Option.some.inj e] at hq
  exact k_191_105 hq
noncomputable def R_191_99 (rec_2 : Int32 → Int32 → Hp → Option (Int32 × Hp)) (v1 : Int32) (v2 : Int32) (h : Hp) : Option (Int32 × Hp) := rec_2 v1 (v2 + 1) h
theorem r_191_99 {X : GX} {d : Nat} {r : Int32 × Hp} (hd : 5 ≤ d) (hq : RtX X (some (.int r.1)) r.2) {rec_2 : Int32 → Int32 → Hp → Option (Int32 × Hp)} (hr_2 : ∀ {v1 : Int32} {v2 : Int32} {h : Hp}, rec_2 v1 v2 h = some r → G X d 191 2 [some (.ref 84), some (.int v1), some (.int v2), none] [] h) {h : Hp} {v1 : Int32} {v2 : Int32} (e : R_191_99 rec_2 v1 v2 h = some r) : G X d 191 99 [some (.ref 84), some (.int v1), some (.int v2), none] [] h := by
  unfold R_191_99 at e
  exact k_191_99 (hr_2 e)
noncomputable def R_191_85 (v2 : Int32) (h : Hp) : Option (Int32 × Hp) := gd (IA 85 ((89 + (4 * v2)) + 1)) (some ((h 85 (Int32.toNatClampNeg ((89 + (4 * v2)) + 1))), h))
theorem r_191_85 {X : GX} {d : Nat} {r : Int32 × Hp} (hd : 5 ≤ d) (hq : RtX X (some (.int r.1)) r.2) {h : Hp} {v2 : Int32} (e : R_191_85 v2 h = some r) : G X d 191 85 [some (.ref 84), none, some (.int v2), none] [] h := by
  unfold R_191_85 at e
  have g := gd_s e; clear e; obtain ⟨b0, e⟩ := g
  rw [← Option.some.inj e] at hq
  exact k_191_85 b0 hq
noncomputable def R_191_82 (rec_2 : Int32 → Int32 → Hp → Option (Int32 × Hp)) (v1 : Int32) (v2 : Int32) (s0 : Int32) (h : Hp) : Option (Int32 × Hp) := if s0 = 0 then R_191_99 rec_2 v1 v2 h else R_191_85 v2 h
theorem r_191_82 {X : GX} {d : Nat} {r : Int32 × Hp} (hd : 5 ≤ d) (hq : RtX X (some (.int r.1)) r.2) {rec_2 : Int32 → Int32 → Hp → Option (Int32 × Hp)} (hr_2 : ∀ {v1 : Int32} {v2 : Int32} {h : Hp}, rec_2 v1 v2 h = some r → G X d 191 2 [some (.ref 84), some (.int v1), some (.int v2), none] [] h) {h : Hp} {v1 : Int32} {v2 : Int32} {s0 : Int32} (e : R_191_82 rec_2 v1 v2 s0 h = some r) : G X d 191 82 [some (.ref 84), some (.int v1), some (.int v2), none] [.int s0] h := by
  unfold R_191_82 at e
  refine k_191_82 (fun c => ?_) (fun c => ?_)
  · rw [if_pos c] at e; exact r_191_99 hd hq hr_2 e
  · rw [if_neg c] at e; exact r_191_85 hd hq e
noncomputable def R_191_51 (rec_2 : Int32 → Int32 → Hp → Option (Int32 × Hp)) (v1 : Int32) (v2 : Int32) (h : Hp) : Option (Int32 × Hp) := gd (IA 85 ((89 + (4 * v2)) + 2) ∧ IA 85 ((89 + (4 * v2)) + 3)) (bndI (S_193 (h 85 (Int32.toNatClampNeg ((89 + (4 * v2)) + 2))) (h 85 (Int32.toNatClampNeg ((89 + (4 * v2)) + 3))) v1 h) (R_191_82 rec_2 v1 v2))
theorem r_191_51 {X : GX} {d : Nat} {r : Int32 × Hp} (hd : 5 ≤ d) (hq : RtX X (some (.int r.1)) r.2) {rec_2 : Int32 → Int32 → Hp → Option (Int32 × Hp)} (hr_2 : ∀ {v1 : Int32} {v2 : Int32} {h : Hp}, rec_2 v1 v2 h = some r → G X d 191 2 [some (.ref 84), some (.int v1), some (.int v2), none] [] h) {h : Hp} {v1 : Int32} {v2 : Int32} (e : R_191_51 rec_2 v1 v2 h = some r) : G X d 191 51 [some (.ref 84), some (.int v1), some (.int v2), none] [] h := by
  unfold R_191_51 at e
  have g := gd_s e; clear e; obtain ⟨⟨b0, b1⟩, e⟩ := g
  obtain ⟨x, h2, e1, e2⟩ := bndI_s e
  refine k_191_51 b0 b1 (by omega) (t_193 e1) ?_
  rintro _ _ ⟨rfl, rfl⟩
  exact r_191_82 hd hq hr_2 e2
noncomputable def R_191_48 (rec_2 : Int32 → Int32 → Hp → Option (Int32 × Hp)) (v1 : Int32) (v2 : Int32) (s1 : Int32) (s0 : Int32) (h : Hp) : Option (Int32 × Hp) := if s1 = s0 then R_191_51 rec_2 v1 v2 h else R_191_99 rec_2 v1 v2 h
theorem r_191_48 {X : GX} {d : Nat} {r : Int32 × Hp} (hd : 5 ≤ d) (hq : RtX X (some (.int r.1)) r.2) {rec_2 : Int32 → Int32 → Hp → Option (Int32 × Hp)} (hr_2 : ∀ {v1 : Int32} {v2 : Int32} {h : Hp}, rec_2 v1 v2 h = some r → G X d 191 2 [some (.ref 84), some (.int v1), some (.int v2), none] [] h) {h : Hp} {v1 : Int32} {v2 : Int32} {s1 : Int32} {s0 : Int32} (e : R_191_48 rec_2 v1 v2 s1 s0 h = some r) : G X d 191 48 [some (.ref 84), some (.int v1), some (.int v2), none] [.int s0, .int s1] h := by
  unfold R_191_48 at e
  refine k_191_48 (fun c => ?_) (fun c => ?_)
  · rw [if_neg c] at e; exact r_191_99 hd hq hr_2 e
  · rw [if_pos c] at e; exact r_191_51 hd hq hr_2 e
noncomputable def R_191_45 (rec_2 : Int32 → Int32 → Hp → Option (Int32 × Hp)) (v1 : Int32) (v2 : Int32) (s1 : Int32) (s0 : Int32) (h : Hp) : Option (Int32 × Hp) := bndI (S_192 s0 h) (R_191_48 rec_2 v1 v2 s1)
theorem r_191_45 {X : GX} {d : Nat} {r : Int32 × Hp} (hd : 5 ≤ d) (hq : RtX X (some (.int r.1)) r.2) {rec_2 : Int32 → Int32 → Hp → Option (Int32 × Hp)} (hr_2 : ∀ {v1 : Int32} {v2 : Int32} {h : Hp}, rec_2 v1 v2 h = some r → G X d 191 2 [some (.ref 84), some (.int v1), some (.int v2), none] [] h) {h : Hp} {v1 : Int32} {v2 : Int32} {s1 : Int32} {s0 : Int32} (e : R_191_45 rec_2 v1 v2 s1 s0 h = some r) : G X d 191 45 [some (.ref 84), some (.int v1), some (.int v2), none] [.int s0, .int s1] h := by
  unfold R_191_45 at e
  obtain ⟨x, h2, e1, e2⟩ := bndI_s e
  refine k_191_45 (by omega) (t_192 e1) ?_
  rintro _ _ ⟨rfl, rfl⟩
  exact r_191_48 hd hq hr_2 e2
noncomputable def R_191_38 (rec_2 : Int32 → Int32 → Hp → Option (Int32 × Hp)) (v1 : Int32) (v2 : Int32) (v3 : Int32) (h : Hp) : Option (Int32 × Hp) := bndI (S_182 v1 0 h) (R_191_45 rec_2 v1 v2 v3)
theorem r_191_38 {X : GX} {d : Nat} {r : Int32 × Hp} (hd : 5 ≤ d) (hq : RtX X (some (.int r.1)) r.2) {rec_2 : Int32 → Int32 → Hp → Option (Int32 × Hp)} (hr_2 : ∀ {v1 : Int32} {v2 : Int32} {h : Hp}, rec_2 v1 v2 h = some r → G X d 191 2 [some (.ref 84), some (.int v1), some (.int v2), none] [] h) {h : Hp} {v1 : Int32} {v2 : Int32} {v3 : Int32} (e : R_191_38 rec_2 v1 v2 v3 h = some r) : G X d 191 38 [some (.ref 84), some (.int v1), some (.int v2), some (.int v3)] [] h := by
  unfold R_191_38 at e
  obtain ⟨x, h2, e1, e2⟩ := bndI_s e
  refine k_191_38 (by omega) (t_182 e1) ?_
  rintro _ _ ⟨rfl, rfl⟩
  exact r_191_45 hd hq hr_2 e2
noncomputable def R_191_35 (rec_2 : Int32 → Int32 → Hp → Option (Int32 × Hp)) (v1 : Int32) (v2 : Int32) (v3 : Int32) (s1 : Int32) (s0 : Int32) (h : Hp) : Option (Int32 × Hp) := if s1 = s0 then R_191_51 rec_2 v1 v2 h else R_191_38 rec_2 v1 v2 v3 h
theorem r_191_35 {X : GX} {d : Nat} {r : Int32 × Hp} (hd : 5 ≤ d) (hq : RtX X (some (.int r.1)) r.2) {rec_2 : Int32 → Int32 → Hp → Option (Int32 × Hp)} (hr_2 : ∀ {v1 : Int32} {v2 : Int32} {h : Hp}, rec_2 v1 v2 h = some r → G X d 191 2 [some (.ref 84), some (.int v1), some (.int v2), none] [] h) {h : Hp} {v1 : Int32} {v2 : Int32} {v3 : Int32} {s1 : Int32} {s0 : Int32} (e : R_191_35 rec_2 v1 v2 v3 s1 s0 h = some r) : G X d 191 35 [some (.ref 84), some (.int v1), some (.int v2), some (.int v3)] [.int s0, .int s1] h := by
  unfold R_191_35 at e
  refine k_191_35 (fun c => ?_) (fun c => ?_)
  · rw [if_pos c] at e; exact r_191_51 hd hq hr_2 e
  · rw [if_neg c] at e; exact r_191_38 hd hq hr_2 e
noncomputable def R_191_28 (rec_2 : Int32 → Int32 → Hp → Option (Int32 × Hp)) (v1 : Int32) (v2 : Int32) (v3 : Int32) (h : Hp) : Option (Int32 × Hp) := bndI (S_182 v1 0 h) (R_191_35 rec_2 v1 v2 v3 v3)
theorem r_191_28 {X : GX} {d : Nat} {r : Int32 × Hp} (hd : 5 ≤ d) (hq : RtX X (some (.int r.1)) r.2) {rec_2 : Int32 → Int32 → Hp → Option (Int32 × Hp)} (hr_2 : ∀ {v1 : Int32} {v2 : Int32} {h : Hp}, rec_2 v1 v2 h = some r → G X d 191 2 [some (.ref 84), some (.int v1), some (.int v2), none] [] h) {h : Hp} {v1 : Int32} {v2 : Int32} {v3 : Int32} (e : R_191_28 rec_2 v1 v2 v3 h = some r) : G X d 191 28 [some (.ref 84), some (.int v1), some (.int v2), some (.int v3)] [] h := by
  unfold R_191_28 at e
  obtain ⟨x, h2, e1, e2⟩ := bndI_s e
  refine k_191_28 (by omega) (t_182 e1) ?_
  rintro _ _ ⟨rfl, rfl⟩
  exact r_191_35 hd hq hr_2 e2
noncomputable def R_191_12 (rec_2 : Int32 → Int32 → Hp → Option (Int32 × Hp)) (v1 : Int32) (v2 : Int32) (h : Hp) : Option (Int32 × Hp) := gd (IA 85 (89 + (4 * v2))) (if (h 85 (Int32.toNatClampNeg (89 + (4 * v2)))) = 0 then R_191_51 rec_2 v1 v2 h else R_191_28 rec_2 v1 v2 (h 85 (Int32.toNatClampNeg (89 + (4 * v2)))) h)
theorem r_191_12 {X : GX} {d : Nat} {r : Int32 × Hp} (hd : 5 ≤ d) (hq : RtX X (some (.int r.1)) r.2) {rec_2 : Int32 → Int32 → Hp → Option (Int32 × Hp)} (hr_2 : ∀ {v1 : Int32} {v2 : Int32} {h : Hp}, rec_2 v1 v2 h = some r → G X d 191 2 [some (.ref 84), some (.int v1), some (.int v2), none] [] h) {h : Hp} {v1 : Int32} {v2 : Int32} (e : R_191_12 rec_2 v1 v2 h = some r) : G X d 191 12 [some (.ref 84), some (.int v1), some (.int v2), none] [] h := by
  unfold R_191_12 at e
  have g := gd_s e; clear e; obtain ⟨b0, e⟩ := g
  refine k_191_12 b0 (fun c => ?_) (fun c => ?_)
  · rw [if_pos c] at e; exact r_191_51 hd hq hr_2 e
  · rw [if_neg c] at e; exact r_191_28 hd hq hr_2 e
noncomputable def R_191_2 (rec_2 : Int32 → Int32 → Hp → Option (Int32 × Hp)) (v1 : Int32) (v2 : Int32) (h : Hp) : Option (Int32 × Hp) := gd (IA 85 5) (if (h 85 (Int32.toNatClampNeg 5)) ≤ v2 then R_191_105 h else R_191_12 rec_2 v1 v2 h)
theorem r_191_2 {X : GX} {d : Nat} {r : Int32 × Hp} (hd : 5 ≤ d) (hq : RtX X (some (.int r.1)) r.2) {rec_2 : Int32 → Int32 → Hp → Option (Int32 × Hp)} (hr_2 : ∀ {v1 : Int32} {v2 : Int32} {h : Hp}, rec_2 v1 v2 h = some r → G X d 191 2 [some (.ref 84), some (.int v1), some (.int v2), none] [] h) {h : Hp} {v1 : Int32} {v2 : Int32} (e : R_191_2 rec_2 v1 v2 h = some r) : G X d 191 2 [some (.ref 84), some (.int v1), some (.int v2), none] [] h := by
  unfold R_191_2 at e
  have g := gd_s e; clear e; obtain ⟨b0, e⟩ := g
  refine k_191_2 b0 (fun c => ?_) (fun c => ?_)
  · rw [if_pos c] at e; exact r_191_105 hd hq e
  · rw [if_neg c] at e; exact r_191_12 hd hq hr_2 e
noncomputable def H_191_2 : Nat → Int32 → Int32 → Hp → Option (Int32 × Hp)
  | 0, _, _, _ => none
  | n + 1, v1, v2, h => R_191_2 (H_191_2 n) v1 v2 h
theorem h_191_2 {X : GX} {d : Nat} {r : Int32 × Hp} (hd : 5 ≤ d) (hq : RtX X (some (.int r.1)) r.2) {n : Nat} {h : Hp} {v1 : Int32} {v2 : Int32} (e : H_191_2 n v1 v2 h = some r) : G X d 191 2 [some (.ref 84), some (.int v1), some (.int v2), none] [] h := by
  induction n generalizing v1 v2 h with
  | zero => cases e
  | succ n ih => exact r_191_2 hd hq (fun e => ih e) e
noncomputable def R_191_0 (v1 : Int32) (h : Hp) : Option (Int32 × Hp) := H_191_2 fuL v1 0 h
theorem r_191_0 {X : GX} {d : Nat} {r : Int32 × Hp} (hd : 5 ≤ d) (hq : RtX X (some (.int r.1)) r.2) {h : Hp} {v1 : Int32} (e : R_191_0 v1 h = some r) : G X d 191 0 [some (.ref 84), some (.int v1), none, none] [] h := by
  unfold R_191_0 at e
  exact k_191_0 (h_191_2 hd hq e)
noncomputable def S_191 (v1 : Int32) (h : Hp) : Option (Int32 × Hp) := R_191_0 v1 h
set_option maxRecDepth 100000 in
theorem t_191 {v1 : Int32} {h : Hp} {r : Int32 × Hp} (e : S_191 v1 h = some r) : CI 5 191 [.ref 84, .int v1] h (fun x g => x = r.1 ∧ g = r.2) := by
  refine C.of mo_191 (Nat.le_of_ble_eq_true rfl) (fun X hq => ?_)
  exact r_191_0 (Nat.le_refl _) (hq _ _ ⟨_, rfl, rfl, rfl⟩) e
/-! 190 PlayedTruthModel.isMendable(I)Z -/
noncomputable def R_190_29 (h : Hp) : Option (Int32 × Hp) := some (0, h)
theorem r_190_29 {X : GX} {d : Nat} {r : Int32 × Hp} (hd : 6 ≤ d) (hq : RtX X (some (.int r.1)) r.2) {h : Hp} (e : R_190_29 h = some r) : G X d 190 29 [none, none] [] h := by
  unfold R_190_29 at e
  rw [← Option.some.inj e] at hq
  exact k_190_29 hq
noncomputable def R_190_25 (h : Hp) : Option (Int32 × Hp) := some (1, h)
theorem r_190_25 {X : GX} {d : Nat} {r : Int32 × Hp} (hd : 6 ≤ d) (hq : RtX X (some (.int r.1)) r.2) {h : Hp} (e : R_190_25 h = some r) : G X d 190 25 [none, none] [] h := by
  unfold R_190_25 at e
  rw [← Option.some.inj e] at hq
  exact k_190_25 hq
noncomputable def R_190_22 (s0 : Int32) (h : Hp) : Option (Int32 × Hp) := if s0 ≤ 0 then R_190_29 h else R_190_25 h
theorem r_190_22 {X : GX} {d : Nat} {r : Int32 × Hp} (hd : 6 ≤ d) (hq : RtX X (some (.int r.1)) r.2) {h : Hp} {s0 : Int32} (e : R_190_22 s0 h = some r) : G X d 190 22 [none, none] [.int s0] h := by
  unfold R_190_22 at e
  refine k_190_22 (fun c => ?_) (fun c => ?_)
  · rw [if_pos c] at e; exact r_190_29 hd hq e
  · rw [if_neg c] at e; exact r_190_25 hd hq e
noncomputable def R_190_17 (v1 : Int32) (h : Hp) : Option (Int32 × Hp) := bndI (S_181 v1 h) (R_190_22)
theorem r_190_17 {X : GX} {d : Nat} {r : Int32 × Hp} (hd : 6 ≤ d) (hq : RtX X (some (.int r.1)) r.2) {h : Hp} {v1 : Int32} (e : R_190_17 v1 h = some r) : G X d 190 17 [some (.ref 84), some (.int v1)] [] h := by
  unfold R_190_17 at e
  obtain ⟨x, h2, e1, e2⟩ := bndI_s e
  refine k_190_17 (by omega) (t_181 e1) ?_
  rintro _ _ ⟨rfl, rfl⟩
  exact r_190_22 hd hq e2
noncomputable def R_190_14 (v1 : Int32) (s0 : Int32) (h : Hp) : Option (Int32 × Hp) := if s0 = 0 then R_190_17 v1 h else R_190_29 h
theorem r_190_14 {X : GX} {d : Nat} {r : Int32 × Hp} (hd : 6 ≤ d) (hq : RtX X (some (.int r.1)) r.2) {h : Hp} {v1 : Int32} {s0 : Int32} (e : R_190_14 v1 s0 h = some r) : G X d 190 14 [some (.ref 84), some (.int v1)] [.int s0] h := by
  unfold R_190_14 at e
  refine k_190_14 (fun c => ?_) (fun c => ?_)
  · rw [if_neg c] at e; exact r_190_29 hd hq e
  · rw [if_pos c] at e; exact r_190_17 hd hq e
noncomputable def R_190_9 (v1 : Int32) (h : Hp) : Option (Int32 × Hp) := bndI (S_191 v1 h) (R_190_14 v1)
theorem r_190_9 {X : GX} {d : Nat} {r : Int32 × Hp} (hd : 6 ≤ d) (hq : RtX X (some (.int r.1)) r.2) {h : Hp} {v1 : Int32} (e : R_190_9 v1 h = some r) : G X d 190 9 [some (.ref 84), some (.int v1)] [] h := by
  unfold R_190_9 at e
  obtain ⟨x, h2, e1, e2⟩ := bndI_s e
  refine k_190_9 (by omega) (t_191 e1) ?_
  rintro _ _ ⟨rfl, rfl⟩
  exact r_190_14 hd hq e2
noncomputable def R_190_6 (v1 : Int32) (s0 : Int32) (h : Hp) : Option (Int32 × Hp) := if s0 = 0 then R_190_9 v1 h else R_190_29 h
theorem r_190_6 {X : GX} {d : Nat} {r : Int32 × Hp} (hd : 6 ≤ d) (hq : RtX X (some (.int r.1)) r.2) {h : Hp} {v1 : Int32} {s0 : Int32} (e : R_190_6 v1 s0 h = some r) : G X d 190 6 [some (.ref 84), some (.int v1)] [.int s0] h := by
  unfold R_190_6 at e
  refine k_190_6 (fun c => ?_) (fun c => ?_)
  · rw [if_neg c] at e; exact r_190_29 hd hq e
  · rw [if_pos c] at e; exact r_190_9 hd hq e
noncomputable def R_190_0 (v1 : Int32) (h : Hp) : Option (Int32 × Hp) := bndI (S_182 v1 4 h) (R_190_6 v1)
theorem r_190_0 {X : GX} {d : Nat} {r : Int32 × Hp} (hd : 6 ≤ d) (hq : RtX X (some (.int r.1)) r.2) {h : Hp} {v1 : Int32} (e : R_190_0 v1 h = some r) : G X d 190 0 [some (.ref 84), some (.int v1)] [] h := by
  unfold R_190_0 at e
  obtain ⟨x, h2, e1, e2⟩ := bndI_s e
  refine k_190_0 (by omega) (t_182 e1) ?_
  rintro _ _ ⟨rfl, rfl⟩
  exact r_190_6 hd hq e2
noncomputable def S_190 (v1 : Int32) (h : Hp) : Option (Int32 × Hp) := R_190_0 v1 h
set_option maxRecDepth 100000 in
theorem t_190 {v1 : Int32} {h : Hp} {r : Int32 × Hp} (e : S_190 v1 h = some r) : CI 6 190 [.ref 84, .int v1] h (fun x g => x = r.1 ∧ g = r.2) := by
  refine C.of mo_190 (Nat.le_of_ble_eq_true rfl) (fun X hq => ?_)
  exact r_190_0 (Nat.le_refl _) (hq _ _ ⟨_, rfl, rfl, rfl⟩) e
/-! 179 PlayedTruthModel.sceneOf(II)I -/
noncomputable def R_179_20 (h : Hp) : Option (Int32 × Hp) := some (((-1)), h)
theorem r_179_20 {X : GX} {d : Nat} {r : Int32 × Hp} (hd : 7 ≤ d) (hq : RtX X (some (.int r.1)) r.2) {h : Hp} (e : R_179_20 h = some r) : G X d 179 20 [none, none, none] [] h := by
  unfold R_179_20 at e
  rw [← Option.some.inj e] at hq
  exact k_179_20 hq
noncomputable def R_179_61 (s0 : Int32) (h : Hp) : Option (Int32 × Hp) := some (s0, h)
theorem r_179_61 {X : GX} {d : Nat} {r : Int32 × Hp} (hd : 7 ≤ d) (hq : RtX X (some (.int r.1)) r.2) {h : Hp} {s0 : Int32} (e : R_179_61 s0 h = some r) : G X d 179 61 [none, none, none] [.int s0] h := by
  unfold R_179_61 at e
  rw [← Option.some.inj e] at hq
  exact k_179_61 hq
noncomputable def R_179_56 (v1 : Int32) (h : Hp) : Option (Int32 × Hp) := bndI (S_181 v1 h) (R_179_61)
theorem r_179_56 {X : GX} {d : Nat} {r : Int32 × Hp} (hd : 7 ≤ d) (hq : RtX X (some (.int r.1)) r.2) {h : Hp} {v1 : Int32} (e : R_179_56 v1 h = some r) : G X d 179 56 [some (.ref 84), some (.int v1), none] [] h := by
  unfold R_179_56 at e
  obtain ⟨x, h2, e1, e2⟩ := bndI_s e
  refine k_179_56 (by omega) (t_181 e1) ?_
  rintro _ _ ⟨rfl, rfl⟩
  exact r_179_61 hd hq e2
noncomputable def R_179_67 (s0 : Int32) (h : Hp) : Option (Int32 × Hp) := some (s0, h)
theorem r_179_67 {X : GX} {d : Nat} {r : Int32 × Hp} (hd : 7 ≤ d) (hq : RtX X (some (.int r.1)) r.2) {h : Hp} {s0 : Int32} (e : R_179_67 s0 h = some r) : G X d 179 67 [none, none, none] [.int s0] h := by
  unfold R_179_67 at e
  rw [← Option.some.inj e] at hq
  exact k_179_67 hq
noncomputable def R_179_62 (v1 : Int32) (h : Hp) : Option (Int32 × Hp) := bndI (S_188 v1 h) (R_179_67)
theorem r_179_62 {X : GX} {d : Nat} {r : Int32 × Hp} (hd : 7 ≤ d) (hq : RtX X (some (.int r.1)) r.2) {h : Hp} {v1 : Int32} (e : R_179_62 v1 h = some r) : G X d 179 62 [some (.ref 84), some (.int v1), none] [] h := by
  unfold R_179_62 at e
  obtain ⟨x, h2, e1, e2⟩ := bndI_s e
  refine k_179_62 (by omega) (t_188 e1) ?_
  rintro _ _ ⟨rfl, rfl⟩
  exact r_179_67 hd hq e2
noncomputable def R_179_73 (s0 : Int32) (h : Hp) : Option (Int32 × Hp) := some (s0, h)
theorem r_179_73 {X : GX} {d : Nat} {r : Int32 × Hp} (hd : 7 ≤ d) (hq : RtX X (some (.int r.1)) r.2) {h : Hp} {s0 : Int32} (e : R_179_73 s0 h = some r) : G X d 179 73 [none, none, none] [.int s0] h := by
  unfold R_179_73 at e
  rw [← Option.some.inj e] at hq
  exact k_179_73 hq
noncomputable def R_179_68 (v1 : Int32) (h : Hp) : Option (Int32 × Hp) := bndI (S_187 v1 h) (R_179_73)
theorem r_179_68 {X : GX} {d : Nat} {r : Int32 × Hp} (hd : 7 ≤ d) (hq : RtX X (some (.int r.1)) r.2) {h : Hp} {v1 : Int32} (e : R_179_68 v1 h = some r) : G X d 179 68 [some (.ref 84), some (.int v1), none] [] h := by
  unfold R_179_68 at e
  obtain ⟨x, h2, e1, e2⟩ := bndI_s e
  refine k_179_68 (by omega) (t_187 e1) ?_
  rintro _ _ ⟨rfl, rfl⟩
  exact r_179_73 hd hq e2
noncomputable def R_179_86 (h : Hp) : Option (Int32 × Hp) := some (0, h)
theorem r_179_86 {X : GX} {d : Nat} {r : Int32 × Hp} (hd : 7 ≤ d) (hq : RtX X (some (.int r.1)) r.2) {h : Hp} (e : R_179_86 h = some r) : G X d 179 86 [none, none, none] [] h := by
  unfold R_179_86 at e
  rw [← Option.some.inj e] at hq
  exact k_179_86 hq
noncomputable def R_179_82 (h : Hp) : Option (Int32 × Hp) := some (1, h)
theorem r_179_82 {X : GX} {d : Nat} {r : Int32 × Hp} (hd : 7 ≤ d) (hq : RtX X (some (.int r.1)) r.2) {h : Hp} (e : R_179_82 h = some r) : G X d 179 82 [none, none, none] [] h := by
  unfold R_179_82 at e
  rw [← Option.some.inj e] at hq
  exact k_179_82 hq
noncomputable def R_179_79 (s0 : Int32) (h : Hp) : Option (Int32 × Hp) := if s0 = 0 then R_179_86 h else R_179_82 h
theorem r_179_79 {X : GX} {d : Nat} {r : Int32 × Hp} (hd : 7 ≤ d) (hq : RtX X (some (.int r.1)) r.2) {h : Hp} {s0 : Int32} (e : R_179_79 s0 h = some r) : G X d 179 79 [none, none, none] [.int s0] h := by
  unfold R_179_79 at e
  refine k_179_79 (fun c => ?_) (fun c => ?_)
  · rw [if_pos c] at e; exact r_179_86 hd hq e
  · rw [if_neg c] at e; exact r_179_82 hd hq e
noncomputable def R_179_74 (v1 : Int32) (h : Hp) : Option (Int32 × Hp) := bndI (S_190 v1 h) (R_179_79)
theorem r_179_74 {X : GX} {d : Nat} {r : Int32 × Hp} (hd : 7 ≤ d) (hq : RtX X (some (.int r.1)) r.2) {h : Hp} {v1 : Int32} (e : R_179_74 v1 h = some r) : G X d 179 74 [some (.ref 84), some (.int v1), none] [] h := by
  unfold R_179_74 at e
  obtain ⟨x, h2, e1, e2⟩ := bndI_s e
  refine k_179_74 (by omega) (t_190 e1) ?_
  rintro _ _ ⟨rfl, rfl⟩
  exact r_179_79 hd hq e2
noncomputable def R_179_93 (s0 : Int32) (h : Hp) : Option (Int32 × Hp) := some (s0, h)
theorem r_179_93 {X : GX} {d : Nat} {r : Int32 × Hp} (hd : 7 ≤ d) (hq : RtX X (some (.int r.1)) r.2) {h : Hp} {s0 : Int32} (e : R_179_93 s0 h = some r) : G X d 179 93 [none, none, none] [.int s0] h := by
  unfold R_179_93 at e
  rw [← Option.some.inj e] at hq
  exact k_179_93 hq
noncomputable def R_179_88 (v1 : Int32) (h : Hp) : Option (Int32 × Hp) := bndI (S_191 v1 h) (R_179_93)
theorem r_179_88 {X : GX} {d : Nat} {r : Int32 × Hp} (hd : 7 ≤ d) (hq : RtX X (some (.int r.1)) r.2) {h : Hp} {v1 : Int32} (e : R_179_88 v1 h = some r) : G X d 179 88 [some (.ref 84), some (.int v1), none] [] h := by
  unfold R_179_88 at e
  obtain ⟨x, h2, e1, e2⟩ := bndI_s e
  refine k_179_88 (by omega) (t_191 e1) ?_
  rintro _ _ ⟨rfl, rfl⟩
  exact r_179_93 hd hq e2
noncomputable def R_179_100 (s0 : Int32) (h : Hp) : Option (Int32 × Hp) := some (s0, h)
theorem r_179_100 {X : GX} {d : Nat} {r : Int32 × Hp} (hd : 7 ≤ d) (hq : RtX X (some (.int r.1)) r.2) {h : Hp} {s0 : Int32} (e : R_179_100 s0 h = some r) : G X d 179 100 [none, none, none] [.int s0] h := by
  unfold R_179_100 at e
  rw [← Option.some.inj e] at hq
  exact k_179_100 hq
noncomputable def R_179_94 (v1 : Int32) (v2 : Int32) (h : Hp) : Option (Int32 × Hp) := bndI (S_182 v1 v2 h) (R_179_100)
theorem r_179_94 {X : GX} {d : Nat} {r : Int32 × Hp} (hd : 7 ≤ d) (hq : RtX X (some (.int r.1)) r.2) {h : Hp} {v1 : Int32} {v2 : Int32} (e : R_179_94 v1 v2 h = some r) : G X d 179 94 [some (.ref 84), some (.int v1), some (.int v2)] [] h := by
  unfold R_179_94 at e
  obtain ⟨x, h2, e1, e2⟩ := bndI_s e
  refine k_179_94 (by omega) (t_182 e1) ?_
  rintro _ _ ⟨rfl, rfl⟩
  exact r_179_100 hd hq e2
noncomputable def R_179_22 (v1 : Int32) (v2 : Int32) (h : Hp) : Option (Int32 × Hp) := if v2 = 5 then R_179_56 v1 h else (if v2 = 6 then R_179_62 v1 h else (if v2 = 7 then R_179_68 v1 h else (if v2 = 8 then R_179_74 v1 h else (if v2 = 9 then R_179_88 v1 h else (R_179_94 v1 v2 h)))))
theorem r_179_22 {X : GX} {d : Nat} {r : Int32 × Hp} (hd : 7 ≤ d) (hq : RtX X (some (.int r.1)) r.2) {h : Hp} {v1 : Int32} {v2 : Int32} (e : R_179_22 v1 v2 h = some r) : G X d 179 22 [some (.ref 84), some (.int v1), some (.int v2)] [] h := by
  unfold R_179_22 at e
  refine k_179_22 (fun c => ?_) (fun c => ?_) (fun c => ?_) (fun c => ?_) (fun c => ?_) (fun c0 c1 c2 c3 c4 => ?_)
  · rw [if_pos c] at e; exact r_179_56 hd hq e
  · rw [if_neg (show ¬ v2 = 5 by rw [c]; decide), if_pos c] at e; exact r_179_62 hd hq e
  · rw [if_neg (show ¬ v2 = 5 by rw [c]; decide), if_neg (show ¬ v2 = 6 by rw [c]; decide), if_pos c] at e; exact r_179_68 hd hq e
  · rw [if_neg (show ¬ v2 = 5 by rw [c]; decide), if_neg (show ¬ v2 = 6 by rw [c]; decide), if_neg (show ¬ v2 = 7 by rw [c]; decide), if_pos c] at e; exact r_179_74 hd hq e
  · rw [if_neg (show ¬ v2 = 5 by rw [c]; decide), if_neg (show ¬ v2 = 6 by rw [c]; decide), if_neg (show ¬ v2 = 7 by rw [c]; decide), if_neg (show ¬ v2 = 8 by rw [c]; decide), if_pos c] at e; exact r_179_88 hd hq e
  · rw [if_neg c0, if_neg c1, if_neg c2, if_neg c3, if_neg c4] at e; exact r_179_94 hd hq e
noncomputable def R_179_17 (v1 : Int32) (v2 : Int32) (s0 : Int32) (h : Hp) : Option (Int32 × Hp) := if s0 = 0 then R_179_20 h else R_179_22 v1 v2 h
theorem r_179_17 {X : GX} {d : Nat} {r : Int32 × Hp} (hd : 7 ≤ d) (hq : RtX X (some (.int r.1)) r.2) {h : Hp} {v1 : Int32} {v2 : Int32} {s0 : Int32} (e : R_179_17 v1 v2 s0 h = some r) : G X d 179 17 [some (.ref 84), some (.int v1), some (.int v2)] [.int s0] h := by
  unfold R_179_17 at e
  refine k_179_17 (fun c => ?_) (fun c => ?_)
  · rw [if_neg c] at e; exact r_179_22 hd hq e
  · rw [if_pos c] at e; exact r_179_20 hd hq e
noncomputable def R_179_8 (v1 : Int32) (v2 : Int32) (h : Hp) : Option (Int32 × Hp) := bndI (S_177 (Int32.toInt64 v2) 0 9 h) (R_179_17 v1 v2)
theorem r_179_8 {X : GX} {d : Nat} {r : Int32 × Hp} (hd : 7 ≤ d) (hq : RtX X (some (.int r.1)) r.2) {h : Hp} {v1 : Int32} {v2 : Int32} (e : R_179_8 v1 v2 h = some r) : G X d 179 8 [some (.ref 84), some (.int v1), some (.int v2)] [] h := by
  unfold R_179_8 at e
  obtain ⟨x, h2, e1, e2⟩ := bndI_s e
  refine k_179_8 (by omega) (t_177 e1) ?_
  rintro _ _ ⟨rfl, rfl⟩
  exact r_179_17 hd hq e2
noncomputable def R_179_5 (v1 : Int32) (v2 : Int32) (s0 : Int32) (h : Hp) : Option (Int32 × Hp) := if s0 = 0 then R_179_20 h else R_179_8 v1 v2 h
theorem r_179_5 {X : GX} {d : Nat} {r : Int32 × Hp} (hd : 7 ≤ d) (hq : RtX X (some (.int r.1)) r.2) {h : Hp} {v1 : Int32} {v2 : Int32} {s0 : Int32} (e : R_179_5 v1 v2 s0 h = some r) : G X d 179 5 [some (.ref 84), some (.int v1), some (.int v2)] [.int s0] h := by
  unfold R_179_5 at e
  refine k_179_5 (fun c => ?_) (fun c => ?_)
  · rw [if_pos c] at e; exact r_179_20 hd hq e
  · rw [if_neg c] at e; exact r_179_8 hd hq e
noncomputable def R_179_0 (v1 : Int32) (v2 : Int32) (h : Hp) : Option (Int32 × Hp) := bndI (S_180 v1 h) (R_179_5 v1 v2)
theorem r_179_0 {X : GX} {d : Nat} {r : Int32 × Hp} (hd : 7 ≤ d) (hq : RtX X (some (.int r.1)) r.2) {h : Hp} {v1 : Int32} {v2 : Int32} (e : R_179_0 v1 v2 h = some r) : G X d 179 0 [some (.ref 84), some (.int v1), some (.int v2)] [] h := by
  unfold R_179_0 at e
  obtain ⟨x, h2, e1, e2⟩ := bndI_s e
  refine k_179_0 (by omega) (t_180 e1) ?_
  rintro _ _ ⟨rfl, rfl⟩
  exact r_179_5 hd hq e2
noncomputable def S_179 (v1 : Int32) (v2 : Int32) (h : Hp) : Option (Int32 × Hp) := R_179_0 v1 v2 h
set_option maxRecDepth 100000 in
theorem t_179 {v1 : Int32} {v2 : Int32} {h : Hp} {r : Int32 × Hp} (e : S_179 v1 v2 h = some r) : CI 7 179 [.ref 84, .int v1, .int v2] h (fun x g => x = r.1 ∧ g = r.2) := by
  refine C.of mo_179 (Nat.le_of_ble_eq_true rfl) (fun X hq => ?_)
  exact r_179_0 (Nat.le_refl _) (hq _ _ ⟨_, rfl, rfl, rfl⟩) e
/-! 197 PlayedTruthModel.becomes(II)I -/
noncomputable def R_197_0 (v1 : Int32) (v2 : Int32) (h : Hp) : Option (Int32 × Hp) := gd (IA 85 v1) (some ((h 85 (Int32.toNatClampNeg v1)), (wr h 85 (Int32.toNatClampNeg v1) v2)))
theorem r_197_0 {X : GX} {d : Nat} {r : Int32 × Hp} (hd : 1 ≤ d) (hq : RtX X (some (.int r.1)) r.2) {h : Hp} {v1 : Int32} {v2 : Int32} (e : R_197_0 v1 v2 h = some r) : G X d 197 0 [some (.ref 84), some (.int v1), some (.int v2), none] [] h := by
  unfold R_197_0 at e
  have g := gd_s e; clear e; obtain ⟨b0, e⟩ := g
  rw [← Option.some.inj e] at hq
  exact k_197_0 b0 hq
noncomputable def S_197 (v1 : Int32) (v2 : Int32) (h : Hp) : Option (Int32 × Hp) := R_197_0 v1 v2 h
set_option maxRecDepth 100000 in
theorem t_197 {v1 : Int32} {v2 : Int32} {h : Hp} {r : Int32 × Hp} (e : S_197 v1 v2 h = some r) : CI 1 197 [.ref 84, .int v1, .int v2] h (fun x g => x = r.1 ∧ g = r.2) := by
  refine C.of mo_197 (Nat.le_of_ble_eq_true rfl) (fun X hq => ?_)
  exact r_197_0 (Nat.le_refl _) (hq _ _ ⟨_, rfl, rfl, rfl⟩) e
/-! 196 PlayedTruthModel.change(III)I -/
noncomputable def R_196_102 (h : Hp) : Option (Int32 × Hp) := some (((-1)), h)
theorem r_196_102 {X : GX} {d : Nat} {r : Int32 × Hp} (hd : 3 ≤ d) (hq : RtX X (some (.int r.1)) r.2) {h : Hp} (e : R_196_102 h = some r) : G X d 196 102 [none, none, none, none, none] [] h := by
  unfold R_196_102 at e
  rw [← Option.some.inj e] at hq
  exact k_196_102 hq
noncomputable def R_196_99 (s0 : Int32) (h : Hp) : Option (Int32 × Hp) := some (s0, h)
theorem r_196_99 {X : GX} {d : Nat} {r : Int32 × Hp} (hd : 3 ≤ d) (hq : RtX X (some (.int r.1)) r.2) {h : Hp} {s0 : Int32} (e : R_196_99 s0 h = some r) : G X d 196 99 [none, none, none, none, none] [.int s0] h := by
  unfold R_196_99 at e
  rw [← Option.some.inj e] at hq
  exact k_196_99 hq
noncomputable def R_196_86 (v1 : Int32) (v2 : Int32) (v3 : Int32) (h : Hp) : Option (Int32 × Hp) := bndI (S_197 ((35 + (5 * v1)) + v2) v3 h) (R_196_99)
theorem r_196_86 {X : GX} {d : Nat} {r : Int32 × Hp} (hd : 3 ≤ d) (hq : RtX X (some (.int r.1)) r.2) {h : Hp} {v1 : Int32} {v2 : Int32} {v3 : Int32} (e : R_196_86 v1 v2 v3 h = some r) : G X d 196 86 [some (.ref 84), some (.int v1), some (.int v2), some (.int v3), none] [] h := by
  unfold R_196_86 at e
  obtain ⟨x, h2, e1, e2⟩ := bndI_s e
  refine k_196_86 (by omega) (t_197 e1) ?_
  rintro _ _ ⟨rfl, rfl⟩
  exact r_196_99 hd hq e2
noncomputable def R_196_81 (v1 : Int32) (v2 : Int32) (v3 : Int32) (v4 : Int32) (h : Hp) : Option (Int32 × Hp) := if v4 = 0 then R_196_102 h else R_196_86 v1 v2 v3 h
theorem r_196_81 {X : GX} {d : Nat} {r : Int32 × Hp} (hd : 3 ≤ d) (hq : RtX X (some (.int r.1)) r.2) {h : Hp} {v1 : Int32} {v2 : Int32} {v3 : Int32} {v4 : Int32} (e : R_196_81 v1 v2 v3 v4 h = some r) : G X d 196 81 [some (.ref 84), some (.int v1), some (.int v2), some (.int v3), some (.int v4)] [] h := by
  unfold R_196_81 at e
  refine k_196_81 (fun c => ?_) (fun c => ?_)
  · rw [if_pos c] at e; exact r_196_102 hd hq e
  · rw [if_neg c] at e; exact r_196_86 hd hq e
noncomputable def R_196_78 (v1 : Int32) (v2 : Int32) (v3 : Int32) (v4 : Int32) (s0 : Int32) (h : Hp) : Option (Int32 × Hp) := if s0 = 0 then R_196_102 h else R_196_81 v1 v2 v3 v4 h
theorem r_196_78 {X : GX} {d : Nat} {r : Int32 × Hp} (hd : 3 ≤ d) (hq : RtX X (some (.int r.1)) r.2) {h : Hp} {v1 : Int32} {v2 : Int32} {v3 : Int32} {v4 : Int32} {s0 : Int32} (e : R_196_78 v1 v2 v3 v4 s0 h = some r) : G X d 196 78 [some (.ref 84), some (.int v1), some (.int v2), some (.int v3), some (.int v4)] [.int s0] h := by
  unfold R_196_78 at e
  refine k_196_78 (fun c => ?_) (fun c => ?_)
  · rw [if_pos c] at e; exact r_196_102 hd hq e
  · rw [if_neg c] at e; exact r_196_81 hd hq e
noncomputable def R_196_70 (v1 : Int32) (v2 : Int32) (v3 : Int32) (h : Hp) : Option (Int32 × Hp) := bndI (S_180 v1 h) (R_196_78 v1 v2 v3 0)
theorem r_196_70 {X : GX} {d : Nat} {r : Int32 × Hp} (hd : 3 ≤ d) (hq : RtX X (some (.int r.1)) r.2) {h : Hp} {v1 : Int32} {v2 : Int32} {v3 : Int32} (e : R_196_70 v1 v2 v3 h = some r) : G X d 196 70 [some (.ref 84), some (.int v1), some (.int v2), some (.int v3), none] [] h := by
  unfold R_196_70 at e
  obtain ⟨x, h2, e1, e2⟩ := bndI_s e
  refine k_196_70 (by omega) (t_180 e1) ?_
  rintro _ _ ⟨rfl, rfl⟩
  exact r_196_78 hd hq e2
noncomputable def R_196_66 (v1 : Int32) (v2 : Int32) (v3 : Int32) (h : Hp) : Option (Int32 × Hp) := bndI (S_180 v1 h) (R_196_78 v1 v2 v3 1)
theorem r_196_66 {X : GX} {d : Nat} {r : Int32 × Hp} (hd : 3 ≤ d) (hq : RtX X (some (.int r.1)) r.2) {h : Hp} {v1 : Int32} {v2 : Int32} {v3 : Int32} (e : R_196_66 v1 v2 v3 h = some r) : G X d 196 66 [some (.ref 84), some (.int v1), some (.int v2), some (.int v3), none] [] h := by
  unfold R_196_66 at e
  obtain ⟨x, h2, e1, e2⟩ := bndI_s e
  refine k_196_66 (by omega) (t_180 e1) ?_
  rintro _ _ ⟨rfl, rfl⟩
  exact r_196_78 hd hq e2
noncomputable def R_196_63 (v1 : Int32) (v2 : Int32) (v3 : Int32) (s0 : Int32) (h : Hp) : Option (Int32 × Hp) := if s0 = 0 then R_196_70 v1 v2 v3 h else R_196_66 v1 v2 v3 h
theorem r_196_63 {X : GX} {d : Nat} {r : Int32 × Hp} (hd : 3 ≤ d) (hq : RtX X (some (.int r.1)) r.2) {h : Hp} {v1 : Int32} {v2 : Int32} {v3 : Int32} {s0 : Int32} (e : R_196_63 v1 v2 v3 s0 h = some r) : G X d 196 63 [some (.ref 84), some (.int v1), some (.int v2), some (.int v3), none] [.int s0] h := by
  unfold R_196_63 at e
  refine k_196_63 (fun c => ?_) (fun c => ?_)
  · rw [if_pos c] at e; exact r_196_70 hd hq e
  · rw [if_neg c] at e; exact r_196_66 hd hq e
noncomputable def R_196_56 (v1 : Int32) (v2 : Int32) (v3 : Int32) (h : Hp) : Option (Int32 × Hp) := bndI (S_177 (Int32.toInt64 v3) 0 1 h) (R_196_63 v1 v2 v3)
theorem r_196_56 {X : GX} {d : Nat} {r : Int32 × Hp} (hd : 3 ≤ d) (hq : RtX X (some (.int r.1)) r.2) {h : Hp} {v1 : Int32} {v2 : Int32} {v3 : Int32} (e : R_196_56 v1 v2 v3 h = some r) : G X d 196 56 [some (.ref 84), some (.int v1), some (.int v2), some (.int v3), none] [] h := by
  unfold R_196_56 at e
  obtain ⟨x, h2, e1, e2⟩ := bndI_s e
  refine k_196_56 (by omega) (t_177 e1) ?_
  rintro _ _ ⟨rfl, rfl⟩
  exact r_196_63 hd hq e2
noncomputable def R_196_51 (v1 : Int32) (v2 : Int32) (v3 : Int32) (h : Hp) : Option (Int32 × Hp) := if v2 = 4 then R_196_56 v1 v2 v3 h else R_196_70 v1 v2 v3 h
theorem r_196_51 {X : GX} {d : Nat} {r : Int32 × Hp} (hd : 3 ≤ d) (hq : RtX X (some (.int r.1)) r.2) {h : Hp} {v1 : Int32} {v2 : Int32} {v3 : Int32} (e : R_196_51 v1 v2 v3 h = some r) : G X d 196 51 [some (.ref 84), some (.int v1), some (.int v2), some (.int v3), none] [] h := by
  unfold R_196_51 at e
  refine k_196_51 (fun c => ?_) (fun c => ?_)
  · rw [if_neg c] at e; exact r_196_70 hd hq e
  · rw [if_pos c] at e; exact r_196_56 hd hq e
noncomputable def R_196_48 (v1 : Int32) (v2 : Int32) (v3 : Int32) (s0 : Int32) (h : Hp) : Option (Int32 × Hp) := bndI (S_180 v1 h) (R_196_78 v1 v2 v3 s0)
theorem r_196_48 {X : GX} {d : Nat} {r : Int32 × Hp} (hd : 3 ≤ d) (hq : RtX X (some (.int r.1)) r.2) {h : Hp} {v1 : Int32} {v2 : Int32} {v3 : Int32} {s0 : Int32} (e : R_196_48 v1 v2 v3 s0 h = some r) : G X d 196 48 [some (.ref 84), some (.int v1), some (.int v2), some (.int v3), none] [.int s0] h := by
  unfold R_196_48 at e
  obtain ⟨x, h2, e1, e2⟩ := bndI_s e
  refine k_196_48 (by omega) (t_180 e1) ?_
  rintro _ _ ⟨rfl, rfl⟩
  exact r_196_78 hd hq e2
noncomputable def R_196_39 (v1 : Int32) (v2 : Int32) (v3 : Int32) (h : Hp) : Option (Int32 × Hp) := bndI (S_177 (Int32.toInt64 v3) 0 5 h) (R_196_48 v1 v2 v3)
theorem r_196_39 {X : GX} {d : Nat} {r : Int32 × Hp} (hd : 3 ≤ d) (hq : RtX X (some (.int r.1)) r.2) {h : Hp} {v1 : Int32} {v2 : Int32} {v3 : Int32} (e : R_196_39 v1 v2 v3 h = some r) : G X d 196 39 [some (.ref 84), some (.int v1), some (.int v2), some (.int v3), none] [] h := by
  unfold R_196_39 at e
  obtain ⟨x, h2, e1, e2⟩ := bndI_s e
  refine k_196_39 (by omega) (t_177 e1) ?_
  rintro _ _ ⟨rfl, rfl⟩
  exact r_196_48 hd hq e2
noncomputable def R_196_34 (v1 : Int32) (v2 : Int32) (v3 : Int32) (h : Hp) : Option (Int32 × Hp) := if v2 = 3 then R_196_39 v1 v2 v3 h else R_196_51 v1 v2 v3 h
theorem r_196_34 {X : GX} {d : Nat} {r : Int32 × Hp} (hd : 3 ≤ d) (hq : RtX X (some (.int r.1)) r.2) {h : Hp} {v1 : Int32} {v2 : Int32} {v3 : Int32} (e : R_196_34 v1 v2 v3 h = some r) : G X d 196 34 [some (.ref 84), some (.int v1), some (.int v2), some (.int v3), none] [] h := by
  unfold R_196_34 at e
  refine k_196_34 (fun c => ?_) (fun c => ?_)
  · rw [if_neg c] at e; exact r_196_51 hd hq e
  · rw [if_pos c] at e; exact r_196_39 hd hq e
noncomputable def R_196_31 (v1 : Int32) (v2 : Int32) (v3 : Int32) (s0 : Int32) (h : Hp) : Option (Int32 × Hp) := bndI (S_180 v1 h) (R_196_78 v1 v2 v3 s0)
theorem r_196_31 {X : GX} {d : Nat} {r : Int32 × Hp} (hd : 3 ≤ d) (hq : RtX X (some (.int r.1)) r.2) {h : Hp} {v1 : Int32} {v2 : Int32} {v3 : Int32} {s0 : Int32} (e : R_196_31 v1 v2 v3 s0 h = some r) : G X d 196 31 [some (.ref 84), some (.int v1), some (.int v2), some (.int v3), none] [.int s0] h := by
  unfold R_196_31 at e
  obtain ⟨x, h2, e1, e2⟩ := bndI_s e
  refine k_196_31 (by omega) (t_180 e1) ?_
  rintro _ _ ⟨rfl, rfl⟩
  exact r_196_78 hd hq e2
noncomputable def R_196_22 (v1 : Int32) (v2 : Int32) (v3 : Int32) (h : Hp) : Option (Int32 × Hp) := bndI (S_177 (Int32.toInt64 v3) 0 9 h) (R_196_31 v1 v2 v3)
theorem r_196_22 {X : GX} {d : Nat} {r : Int32 × Hp} (hd : 3 ≤ d) (hq : RtX X (some (.int r.1)) r.2) {h : Hp} {v1 : Int32} {v2 : Int32} {v3 : Int32} (e : R_196_22 v1 v2 v3 h = some r) : G X d 196 22 [some (.ref 84), some (.int v1), some (.int v2), some (.int v3), none] [] h := by
  unfold R_196_22 at e
  obtain ⟨x, h2, e1, e2⟩ := bndI_s e
  refine k_196_22 (by omega) (t_177 e1) ?_
  rintro _ _ ⟨rfl, rfl⟩
  exact r_196_31 hd hq e2
noncomputable def R_196_17 (v1 : Int32) (v2 : Int32) (v3 : Int32) (h : Hp) : Option (Int32 × Hp) := if v2 = 2 then R_196_22 v1 v2 v3 h else R_196_34 v1 v2 v3 h
theorem r_196_17 {X : GX} {d : Nat} {r : Int32 × Hp} (hd : 3 ≤ d) (hq : RtX X (some (.int r.1)) r.2) {h : Hp} {v1 : Int32} {v2 : Int32} {v3 : Int32} (e : R_196_17 v1 v2 v3 h = some r) : G X d 196 17 [some (.ref 84), some (.int v1), some (.int v2), some (.int v3), none] [] h := by
  unfold R_196_17 at e
  refine k_196_17 (fun c => ?_) (fun c => ?_)
  · rw [if_neg c] at e; exact r_196_34 hd hq e
  · rw [if_pos c] at e; exact r_196_22 hd hq e
noncomputable def R_196_14 (v1 : Int32) (v2 : Int32) (v3 : Int32) (s0 : Int32) (h : Hp) : Option (Int32 × Hp) := bndI (S_180 v1 h) (R_196_78 v1 v2 v3 s0)
theorem r_196_14 {X : GX} {d : Nat} {r : Int32 × Hp} (hd : 3 ≤ d) (hq : RtX X (some (.int r.1)) r.2) {h : Hp} {v1 : Int32} {v2 : Int32} {v3 : Int32} {s0 : Int32} (e : R_196_14 v1 v2 v3 s0 h = some r) : G X d 196 14 [some (.ref 84), some (.int v1), some (.int v2), some (.int v3), none] [.int s0] h := by
  unfold R_196_14 at e
  obtain ⟨x, h2, e1, e2⟩ := bndI_s e
  refine k_196_14 (by omega) (t_180 e1) ?_
  rintro _ _ ⟨rfl, rfl⟩
  exact r_196_78 hd hq e2
noncomputable def R_196_5 (v1 : Int32) (v2 : Int32) (v3 : Int32) (h : Hp) : Option (Int32 × Hp) := bndI (S_177 (Int32.toInt64 v3) 0 99 h) (R_196_14 v1 v2 v3)
theorem r_196_5 {X : GX} {d : Nat} {r : Int32 × Hp} (hd : 3 ≤ d) (hq : RtX X (some (.int r.1)) r.2) {h : Hp} {v1 : Int32} {v2 : Int32} {v3 : Int32} (e : R_196_5 v1 v2 v3 h = some r) : G X d 196 5 [some (.ref 84), some (.int v1), some (.int v2), some (.int v3), none] [] h := by
  unfold R_196_5 at e
  obtain ⟨x, h2, e1, e2⟩ := bndI_s e
  refine k_196_5 (by omega) (t_177 e1) ?_
  rintro _ _ ⟨rfl, rfl⟩
  exact r_196_14 hd hq e2
noncomputable def R_196_0 (v1 : Int32) (v2 : Int32) (v3 : Int32) (h : Hp) : Option (Int32 × Hp) := if v2 = 1 then R_196_5 v1 v2 v3 h else R_196_17 v1 v2 v3 h
theorem r_196_0 {X : GX} {d : Nat} {r : Int32 × Hp} (hd : 3 ≤ d) (hq : RtX X (some (.int r.1)) r.2) {h : Hp} {v1 : Int32} {v2 : Int32} {v3 : Int32} (e : R_196_0 v1 v2 v3 h = some r) : G X d 196 0 [some (.ref 84), some (.int v1), some (.int v2), some (.int v3), none] [] h := by
  unfold R_196_0 at e
  refine k_196_0 (fun c => ?_) (fun c => ?_)
  · rw [if_neg c] at e; exact r_196_17 hd hq e
  · rw [if_pos c] at e; exact r_196_5 hd hq e
noncomputable def S_196 (v1 : Int32) (v2 : Int32) (v3 : Int32) (h : Hp) : Option (Int32 × Hp) := R_196_0 v1 v2 v3 h
set_option maxRecDepth 100000 in
theorem t_196 {v1 : Int32} {v2 : Int32} {v3 : Int32} {h : Hp} {r : Int32 × Hp} (e : S_196 v1 v2 v3 h = some r) : CI 3 196 [.ref 84, .int v1, .int v2, .int v3] h (fun x g => x = r.1 ∧ g = r.2) := by
  refine C.of mo_196 (Nat.le_of_ble_eq_true rfl) (fun X hq => ?_)
  exact r_196_0 (Nat.le_refl _) (hq _ _ ⟨_, rfl, rfl, rfl⟩) e
