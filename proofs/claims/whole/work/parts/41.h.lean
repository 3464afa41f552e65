/-! part 41.h: by program (wip/whole/sem.py) -/
/-! 253 PlayedTruthModel.ways(I)I -/
noncomputable def R_253_14 (h : Hp) : Option (Int32 × Hp) := some ((h 84 21), h)
theorem r_253_14 {X : GX} {d : Nat} {r : Int32 × Hp} (hd : 9 ≤ d) (hq : RtX X (some (.int r.1)) r.2) {h : Hp} (e : R_253_14 h = some r) : G X d 253 14 [some (.ref 84), none] [] h := by
  unfold R_253_14 at e
  rw [← Option.some.inj e] at hq
  exact k_253_14 hq
noncomputable def R_253_9 (v1 : Int32) (h : Hp) : Option (Int32 × Hp) := bndV (S_248 v1 h) (R_253_14)
theorem r_253_9 {X : GX} {d : Nat} {r : Int32 × Hp} (hd : 9 ≤ d) (hq : RtX X (some (.int r.1)) r.2) {h : Hp} {v1 : Int32} (e : R_253_9 v1 h = some r) : G X d 253 9 [some (.ref 84), some (.int v1)] [] h := by
  unfold R_253_9 at e
  obtain ⟨x, h2, e1, e2⟩ := bndV_s e
  refine k_253_9 (by omega) (t_248 e1) ?_
  rintro _ rfl
  exact r_253_14 hd hq e2
noncomputable def R_253_7 (h : Hp) : Option (Int32 × Hp) := some (((-1)), h)
theorem r_253_7 {X : GX} {d : Nat} {r : Int32 × Hp} (hd : 9 ≤ d) (hq : RtX X (some (.int r.1)) r.2) {h : Hp} (e : R_253_7 h = some r) : G X d 253 7 [none, none] [] h := by
  unfold R_253_7 at e
  rw [← Option.some.inj e] at hq
  exact k_253_7 hq
noncomputable def R_253_4 (v1 : Int32) (s0 : Int32) (h : Hp) : Option (Int32 × Hp) := if s0 = 0 then R_253_7 h else R_253_9 v1 h
theorem r_253_4 {X : GX} {d : Nat} {r : Int32 × Hp} (hd : 9 ≤ d) (hq : RtX X (some (.int r.1)) r.2) {h : Hp} {v1 : Int32} {s0 : Int32} (e : R_253_4 v1 s0 h = some r) : G X d 253 4 [some (.ref 84), some (.int v1)] [.int s0] h := by
  unfold R_253_4 at e
  refine k_253_4 (fun c => ?_) (fun c => ?_)
  · rw [if_neg c] at e; exact r_253_9 hd hq e
  · rw [if_pos c] at e; exact r_253_7 hd hq e
noncomputable def R_253_0 (v1 : Int32) (h : Hp) : Option (Int32 × Hp) := bndI (S_247 v1 h) (R_253_4 v1)
theorem r_253_0 {X : GX} {d : Nat} {r : Int32 × Hp} (hd : 9 ≤ d) (hq : RtX X (some (.int r.1)) r.2) {h : Hp} {v1 : Int32} (e : R_253_0 v1 h = some r) : G X d 253 0 [some (.ref 84), some (.int v1)] [] h := by
  unfold R_253_0 at e
  obtain ⟨x, h2, e1, e2⟩ := bndI_s e
  refine k_253_0 (by omega) (t_247 e1) ?_
  rintro _ _ ⟨rfl, rfl⟩
  exact r_253_4 hd hq e2
noncomputable def S_253 (v1 : Int32) (h : Hp) : Option (Int32 × Hp) := R_253_0 v1 h
set_option maxRecDepth 100000 in
theorem t_253 {v1 : Int32} {h : Hp} {r : Int32 × Hp} (e : S_253 v1 h = some r) : CI 9 253 [.ref 84, .int v1] h (fun x g => x = r.1 ∧ g = r.2) := by
  refine C.of mo_253 (Nat.le_of_ble_eq_true rfl) (fun X hq => ?_)
  exact r_253_0 (Nat.le_refl _) (hq _ _ ⟨_, rfl, rfl, rfl⟩) e
/-! 255 PlayedTruthModel.areScenes(I)Z -/
noncomputable def R_255_17 (s0 : Int32) (h : Hp) : Option (Int32 × Hp) := gd (s0 = 0 ∨ s0 = 1) (some (s0, h))
theorem r_255_17 {X : GX} {d : Nat} {r : Int32 × Hp} (hd : 2 ≤ d) (hq : RtX X (some (.int r.1)) r.2) {h : Hp} {s0 : Int32} (e : R_255_17 s0 h = some r) : G X d 255 17 [none, none] [.int s0] h := by
  unfold R_255_17 at e
  have g := gd_s e; clear e; obtain ⟨z0, e⟩ := g
  rw [← Option.some.inj e] at hq
  exact k_255_17 z0 hq
noncomputable def R_255_0 (v1 : Int32) (h : Hp) : Option (Int32 × Hp) := gd (IA 85 0) (bndI (S_177 (Int32.toInt64 v1) 0 (Int32.toInt64 ((1 <<< ((h 85 (Int32.toNatClampNeg 0)) &&& 31)) - 1)) h) (R_255_17))
theorem r_255_0 {X : GX} {d : Nat} {r : Int32 × Hp} (hd : 2 ≤ d) (hq : RtX X (some (.int r.1)) r.2) {h : Hp} {v1 : Int32} (e : R_255_0 v1 h = some r) : G X d 255 0 [some (.ref 84), some (.int v1)] [] h := by
  unfold R_255_0 at e
  have g := gd_s e; clear e; obtain ⟨b0, e⟩ := g
  obtain ⟨x, h2, e1, e2⟩ := bndI_s e
  refine k_255_0 b0 (by omega) (t_177 e1) ?_
  rintro _ _ ⟨rfl, rfl⟩
  exact r_255_17 hd hq e2
noncomputable def S_255 (v1 : Int32) (h : Hp) : Option (Int32 × Hp) := R_255_0 v1 h
set_option maxRecDepth 100000 in
theorem t_255 {v1 : Int32} {h : Hp} {r : Int32 × Hp} (e : S_255 v1 h = some r) : CI 2 255 [.ref 84, .int v1] h (fun x g => x = r.1 ∧ g = r.2) := by
  refine C.of mo_255 (Nat.le_of_ble_eq_true rfl) (fun X hq => ?_)
  exact r_255_0 (Nat.le_refl _) (hq _ _ ⟨_, rfl, rfl, rfl⟩) e
/-! 256 PlayedTruthModel.findBills(II)V -/
noncomputable def R_256_164 (h : Hp) : Option (Int32 × Hp) := some (0, h)
theorem r_256_164 {X : GX} {d : Nat} {r : Int32 × Hp} (hd : 8 ≤ d) (hq : RtX X none r.2) {h : Hp} (e : R_256_164 h = some r) : G X d 256 164 [none, none, none, none, none, none, none, none] [] h := by
  unfold R_256_164 at e
  rw [← Option.some.inj e] at hq
  exact k_256_164 hq
noncomputable def R_256_160 (h : Hp) : Option (Int32 × Hp) := bndV (S_231 h) (R_256_164)
theorem r_256_160 {X : GX} {d : Nat} {r : Int32 × Hp} (hd : 8 ≤ d) (hq : RtX X none r.2) {h : Hp} (e : R_256_160 h = some r) : G X d 256 160 [some (.ref 84), none, none, none, none, none, none, none] [] h := by
  unfold R_256_160 at e
  obtain ⟨x, h2, e1, e2⟩ := bndV_s e
  refine k_256_160 (by omega) (t_231 e1) ?_
  rintro _ rfl
  exact r_256_164 hd hq e2
noncomputable def R_256_147 (rec_31 : Int32 → Int32 → Int32 → Int32 → Hp → Option (Int32 × Hp)) (v2 : Int32) (v3 : Int32) (v4 : Int32) (v5 : Int32) (s0 : Nat) (h : Hp) : Option (Int32 × Hp) := gd (sh s0 = (1, 9)) (rec_31 v2 v3 v4 (v5 + 1) ((wr h s0 22 (h 84 22))))
theorem r_256_147 {X : GX} {d : Nat} {r : Int32 × Hp} (hd : 8 ≤ d) (hq : RtX X none r.2) {rec_31 : Int32 → Int32 → Int32 → Int32 → Hp → Option (Int32 × Hp)} (hr_31 : ∀ {v2 : Int32} {v3 : Int32} {v4 : Int32} {v5 : Int32} {h : Hp}, rec_31 v2 v3 v4 v5 h = some r → G X d 256 31 [some (.ref 84), none, some (.int v2), some (.int v3), some (.int v4), some (.int v5), none, none] [] h) {h : Hp} {v2 : Int32} {v3 : Int32} {v4 : Int32} {v5 : Int32} {s0 : Nat} (e : R_256_147 rec_31 v2 v3 v4 v5 s0 h = some r) : G X d 256 147 [some (.ref 84), none, some (.int v2), some (.int v3), some (.int v4), some (.int v5), none, none] [.ref s0] h := by
  unfold R_256_147 at e
  have g := gd_s e; clear e; obtain ⟨o0, e⟩ := g
  exact k_256_147 o0 (hr_31 e)
noncomputable def R_256_142 (rec_31 : Int32 → Int32 → Int32 → Int32 → Hp → Option (Int32 × Hp)) (v2 : Int32) (v3 : Int32) (v4 : Int32) (v5 : Int32) (v6 : Int32) (s0 : Nat) (h : Hp) : Option (Int32 × Hp) := gd (sh s0 = (1, 9)) (rec_31 v2 v3 v4 (v5 + 1) ((wr h s0 22 v6)))
theorem r_256_142 {X : GX} {d : Nat} {r : Int32 × Hp} (hd : 8 ≤ d) (hq : RtX X none r.2) {rec_31 : Int32 → Int32 → Int32 → Int32 → Hp → Option (Int32 × Hp)} (hr_31 : ∀ {v2 : Int32} {v3 : Int32} {v4 : Int32} {v5 : Int32} {h : Hp}, rec_31 v2 v3 v4 v5 h = some r → G X d 256 31 [some (.ref 84), none, some (.int v2), some (.int v3), some (.int v4), some (.int v5), none, none] [] h) {h : Hp} {v2 : Int32} {v3 : Int32} {v4 : Int32} {v5 : Int32} {v6 : Int32} {s0 : Nat} (e : R_256_142 rec_31 v2 v3 v4 v5 v6 s0 h = some r) : G X d 256 142 [some (.ref 84), none, some (.int v2), some (.int v3), some (.int v4), some (.int v5), some (.int v6), none] [.ref s0] h := by
  unfold R_256_142 at e
  have g := gd_s e; clear e; obtain ⟨o0, e⟩ := g
  exact k_256_142 o0 (hr_31 e)
noncomputable def R_256_133 (rec_31 : Int32 → Int32 → Int32 → Int32 → Hp → Option (Int32 × Hp)) (v2 : Int32) (v3 : Int32) (v4 : Int32) (v5 : Int32) (v6 : Int32) (s0 : Nat) (h : Hp) : Option (Int32 × Hp) := if (h 84 22) ≤ v6 then R_256_147 rec_31 v2 v3 v4 v5 s0 h else R_256_142 rec_31 v2 v3 v4 v5 v6 s0 h
theorem r_256_133 {X : GX} {d : Nat} {r : Int32 × Hp} (hd : 8 ≤ d) (hq : RtX X none r.2) {rec_31 : Int32 → Int32 → Int32 → Int32 → Hp → Option (Int32 × Hp)} (hr_31 : ∀ {v2 : Int32} {v3 : Int32} {v4 : Int32} {v5 : Int32} {h : Hp}, rec_31 v2 v3 v4 v5 h = some r → G X d 256 31 [some (.ref 84), none, some (.int v2), some (.int v3), some (.int v4), some (.int v5), none, none] [] h) {h : Hp} {v2 : Int32} {v3 : Int32} {v4 : Int32} {v5 : Int32} {v6 : Int32} {s0 : Nat} (e : R_256_133 rec_31 v2 v3 v4 v5 v6 s0 h = some r) : G X d 256 133 [some (.ref 84), none, some (.int v2), some (.int v3), some (.int v4), some (.int v5), some (.int v6), none] [.ref s0] h := by
  unfold R_256_133 at e
  refine k_256_133 (fun c => ?_) (fun c => ?_)
  · rw [if_pos c] at e; exact r_256_147 hd hq hr_31 e
  · rw [if_neg c] at e; exact r_256_142 hd hq hr_31 e
noncomputable def R_256_126 (rec_31 : Int32 → Int32 → Int32 → Int32 → Hp → Option (Int32 × Hp)) (v2 : Int32) (v3 : Int32) (v4 : Int32) (v5 : Int32) (v6 : Int32) (s0 : Nat) (h : Hp) : Option (Int32 × Hp) := if (h 84 22) < 0 then R_256_142 rec_31 v2 v3 v4 v5 v6 s0 h else R_256_133 rec_31 v2 v3 v4 v5 v6 s0 h
theorem r_256_126 {X : GX} {d : Nat} {r : Int32 × Hp} (hd : 8 ≤ d) (hq : RtX X none r.2) {rec_31 : Int32 → Int32 → Int32 → Int32 → Hp → Option (Int32 × Hp)} (hr_31 : ∀ {v2 : Int32} {v3 : Int32} {v4 : Int32} {v5 : Int32} {h : Hp}, rec_31 v2 v3 v4 v5 h = some r → G X d 256 31 [some (.ref 84), none, some (.int v2), some (.int v3), some (.int v4), some (.int v5), none, none] [] h) {h : Hp} {v2 : Int32} {v3 : Int32} {v4 : Int32} {v5 : Int32} {v6 : Int32} {s0 : Nat} (e : R_256_126 rec_31 v2 v3 v4 v5 v6 s0 h = some r) : G X d 256 126 [some (.ref 84), none, some (.int v2), some (.int v3), some (.int v4), some (.int v5), some (.int v6), none] [.ref s0] h := by
  unfold R_256_126 at e
  refine k_256_126 (fun c => ?_) (fun c => ?_)
  · rw [if_pos c] at e; exact r_256_142 hd hq hr_31 e
  · rw [if_neg c] at e; exact r_256_133 hd hq hr_31 e
noncomputable def R_256_105 (rec_31 : Int32 → Int32 → Int32 → Int32 → Hp → Option (Int32 × Hp)) (v2 : Int32) (v3 : Int32) (v4 : Int32) (v5 : Int32) (v6 : Int32) (v7 : Int32) (h : Hp) : Option (Int32 × Hp) := if (v2 &&& (v7 ^^^ ((-1)))) = 0 then R_256_126 rec_31 v2 v3 v4 v5 v6 84 ((wr h 84 23 ((h 84 23) ||| v7))) else R_256_147 rec_31 v2 v3 v4 v5 84 ((wr h 84 23 ((h 84 23) ||| v7)))
theorem r_256_105 {X : GX} {d : Nat} {r : Int32 × Hp} (hd : 8 ≤ d) (hq : RtX X none r.2) {rec_31 : Int32 → Int32 → Int32 → Int32 → Hp → Option (Int32 × Hp)} (hr_31 : ∀ {v2 : Int32} {v3 : Int32} {v4 : Int32} {v5 : Int32} {h : Hp}, rec_31 v2 v3 v4 v5 h = some r → G X d 256 31 [some (.ref 84), none, some (.int v2), some (.int v3), some (.int v4), some (.int v5), none, none] [] h) {h : Hp} {v2 : Int32} {v3 : Int32} {v4 : Int32} {v5 : Int32} {v6 : Int32} {v7 : Int32} (e : R_256_105 rec_31 v2 v3 v4 v5 v6 v7 h = some r) : G X d 256 105 [some (.ref 84), none, some (.int v2), some (.int v3), some (.int v4), some (.int v5), some (.int v6), some (.int v7)] [] h := by
  unfold R_256_105 at e
  refine k_256_105 (fun c => ?_) (fun c => ?_)
  · rw [if_neg c] at e; exact r_256_147 hd hq hr_31 e
  · rw [if_pos c] at e; exact r_256_126 hd hq hr_31 e
noncomputable def R_256_99 (rec_31 : Int32 → Int32 → Int32 → Int32 → Hp → Option (Int32 × Hp)) (v2 : Int32) (v3 : Int32) (v4 : Int32) (v5 : Int32) (v6 : Int32) (s0 : Int32) (h : Hp) : Option (Int32 × Hp) := bndV (S_232 h) (R_256_105 rec_31 v2 v3 v4 v5 v6 s0)
theorem r_256_99 {X : GX} {d : Nat} {r : Int32 × Hp} (hd : 8 ≤ d) (hq : RtX X none r.2) {rec_31 : Int32 → Int32 → Int32 → Int32 → Hp → Option (Int32 × Hp)} (hr_31 : ∀ {v2 : Int32} {v3 : Int32} {v4 : Int32} {v5 : Int32} {h : Hp}, rec_31 v2 v3 v4 v5 h = some r → G X d 256 31 [some (.ref 84), none, some (.int v2), some (.int v3), some (.int v4), some (.int v5), none, none] [] h) {h : Hp} {v2 : Int32} {v3 : Int32} {v4 : Int32} {v5 : Int32} {v6 : Int32} {s0 : Int32} (e : R_256_99 rec_31 v2 v3 v4 v5 v6 s0 h = some r) : G X d 256 99 [some (.ref 84), none, some (.int v2), some (.int v3), some (.int v4), some (.int v5), some (.int v6), none] [.int s0] h := by
  unfold R_256_99 at e
  obtain ⟨x, h2, e1, e2⟩ := bndV_s e
  refine k_256_99 (by omega) (t_232 e1) ?_
  rintro _ rfl
  exact r_256_105 hd hq hr_31 e2
noncomputable def R_256_95 (rec_31 : Int32 → Int32 → Int32 → Int32 → Hp → Option (Int32 × Hp)) (v2 : Int32) (v3 : Int32) (v4 : Int32) (v5 : Int32) (v6 : Int32) (h : Hp) : Option (Int32 × Hp) := bndI (S_206 h) (R_256_99 rec_31 v2 v3 v4 v5 v6)
theorem r_256_95 {X : GX} {d : Nat} {r : Int32 × Hp} (hd : 8 ≤ d) (hq : RtX X none r.2) {rec_31 : Int32 → Int32 → Int32 → Int32 → Hp → Option (Int32 × Hp)} (hr_31 : ∀ {v2 : Int32} {v3 : Int32} {v4 : Int32} {v5 : Int32} {h : Hp}, rec_31 v2 v3 v4 v5 h = some r → G X d 256 31 [some (.ref 84), none, some (.int v2), some (.int v3), some (.int v4), some (.int v5), none, none] [] h) {h : Hp} {v2 : Int32} {v3 : Int32} {v4 : Int32} {v5 : Int32} {v6 : Int32} (e : R_256_95 rec_31 v2 v3 v4 v5 v6 h = some r) : G X d 256 95 [some (.ref 84), none, some (.int v2), some (.int v3), some (.int v4), some (.int v5), some (.int v6), none] [] h := by
  unfold R_256_95 at e
  obtain ⟨x, h2, e1, e2⟩ := bndI_s e
  refine k_256_95 (by omega) (t_206 e1) ?_
  rintro _ _ ⟨rfl, rfl⟩
  exact r_256_99 hd hq hr_31 e2
noncomputable def R_256_88 (rec_31 : Int32 → Int32 → Int32 → Int32 → Hp → Option (Int32 × Hp)) (rec_51 : Int32 → Int32 → Int32 → Int32 → Int32 → Int32 → Hp → Option (Int32 × Hp)) (v2 : Int32) (v3 : Int32) (v4 : Int32) (v5 : Int32) (v6 : Int32) (v7 : Int32) (s0 : Int32) (h : Hp) : Option (Int32 × Hp) := rec_51 v2 v3 v4 v5 v6 (v7 + 1) h
theorem r_256_88 {X : GX} {d : Nat} {r : Int32 × Hp} (hd : 8 ≤ d) (hq : RtX X none r.2) {rec_31 : Int32 → Int32 → Int32 → Int32 → Hp → Option (Int32 × Hp)} {rec_51 : Int32 → Int32 → Int32 → Int32 → Int32 → Int32 → Hp → Option (Int32 × Hp)} (hr_31 : ∀ {v2 : Int32} {v3 : Int32} {v4 : Int32} {v5 : Int32} {h : Hp}, rec_31 v2 v3 v4 v5 h = some r → G X d 256 31 [some (.ref 84), none, some (.int v2), some (.int v3), some (.int v4), some (.int v5), none, none] [] h) (hr_51 : ∀ {v2 : Int32} {v3 : Int32} {v4 : Int32} {v5 : Int32} {v6 : Int32} {v7 : Int32} {h : Hp}, rec_51 v2 v3 v4 v5 v6 v7 h = some r → G X d 256 51 [some (.ref 84), none, some (.int v2), some (.int v3), some (.int v4), some (.int v5), some (.int v6), some (.int v7)] [] h) {h : Hp} {v2 : Int32} {v3 : Int32} {v4 : Int32} {v5 : Int32} {v6 : Int32} {v7 : Int32} {s0 : Int32} (e : R_256_88 rec_31 rec_51 v2 v3 v4 v5 v6 v7 s0 h = some r) : G X d 256 88 [some (.ref 84), none, some (.int v2), some (.int v3), some (.int v4), some (.int v5), some (.int v6), some (.int v7)] [.int s0] h := by
  unfold R_256_88 at e
  exact k_256_88 (hr_51 e)
noncomputable def R_256_73 (rec_31 : Int32 → Int32 → Int32 → Int32 → Hp → Option (Int32 × Hp)) (rec_51 : Int32 → Int32 → Int32 → Int32 → Int32 → Int32 → Hp → Option (Int32 × Hp)) (v2 : Int32) (v3 : Int32) (v4 : Int32) (v5 : Int32) (v7 : Int32) (s0 : Int32) (h : Hp) : Option (Int32 × Hp) := gd (IA 92 v7) (bndI (S_226 (h 92 (Int32.toNatClampNeg v7)) h) (R_256_88 rec_31 rec_51 v2 v3 v4 v5 (s0 + 0) v7))
theorem r_256_73 {X : GX} {d : Nat} {r : Int32 × Hp} (hd : 8 ≤ d) (hq : RtX X none r.2) {rec_31 : Int32 → Int32 → Int32 → Int32 → Hp → Option (Int32 × Hp)} {rec_51 : Int32 → Int32 → Int32 → Int32 → Int32 → Int32 → Hp → Option (Int32 × Hp)} (hr_31 : ∀ {v2 : Int32} {v3 : Int32} {v4 : Int32} {v5 : Int32} {h : Hp}, rec_31 v2 v3 v4 v5 h = some r → G X d 256 31 [some (.ref 84), none, some (.int v2), some (.int v3), some (.int v4), some (.int v5), none, none] [] h) (hr_51 : ∀ {v2 : Int32} {v3 : Int32} {v4 : Int32} {v5 : Int32} {v6 : Int32} {v7 : Int32} {h : Hp}, rec_51 v2 v3 v4 v5 v6 v7 h = some r → G X d 256 51 [some (.ref 84), none, some (.int v2), some (.int v3), some (.int v4), some (.int v5), some (.int v6), some (.int v7)] [] h) {h : Hp} {v2 : Int32} {v3 : Int32} {v4 : Int32} {v5 : Int32} {v7 : Int32} {s0 : Int32} (e : R_256_73 rec_31 rec_51 v2 v3 v4 v5 v7 s0 h = some r) : G X d 256 73 [some (.ref 84), none, some (.int v2), some (.int v3), some (.int v4), some (.int v5), none, some (.int v7)] [.int s0] h := by
  unfold R_256_73 at e
  have g := gd_s e; clear e; obtain ⟨b0, e⟩ := g
  obtain ⟨x, h2, e1, e2⟩ := bndI_s e
  refine k_256_73 b0 (by omega) (t_226 e1) ?_
  rintro _ _ ⟨rfl, rfl⟩
  exact r_256_88 hd hq hr_31 hr_51 e2
noncomputable def R_256_69 (rec_31 : Int32 → Int32 → Int32 → Int32 → Hp → Option (Int32 × Hp)) (rec_51 : Int32 → Int32 → Int32 → Int32 → Int32 → Int32 → Hp → Option (Int32 × Hp)) (v2 : Int32) (v3 : Int32) (v4 : Int32) (v5 : Int32) (v7 : Int32) (s0 : Int32) (h : Hp) : Option (Int32 × Hp) := gd (IA 92 v7) (bndI (S_226 (h 92 (Int32.toNatClampNeg v7)) h) (R_256_88 rec_31 rec_51 v2 v3 v4 v5 (s0 + 1) v7))
theorem r_256_69 {X : GX} {d : Nat} {r : Int32 × Hp} (hd : 8 ≤ d) (hq : RtX X none r.2) {rec_31 : Int32 → Int32 → Int32 → Int32 → Hp → Option (Int32 × Hp)} {rec_51 : Int32 → Int32 → Int32 → Int32 → Int32 → Int32 → Hp → Option (Int32 × Hp)} (hr_31 : ∀ {v2 : Int32} {v3 : Int32} {v4 : Int32} {v5 : Int32} {h : Hp}, rec_31 v2 v3 v4 v5 h = some r → G X d 256 31 [some (.ref 84), none, some (.int v2), some (.int v3), some (.int v4), some (.int v5), none, none] [] h) (hr_51 : ∀ {v2 : Int32} {v3 : Int32} {v4 : Int32} {v5 : Int32} {v6 : Int32} {v7 : Int32} {h : Hp}, rec_51 v2 v3 v4 v5 v6 v7 h = some r → G X d 256 51 [some (.ref 84), none, some (.int v2), some (.int v3), some (.int v4), some (.int v5), some (.int v6), some (.int v7)] [] h) {h : Hp} {v2 : Int32} {v3 : Int32} {v4 : Int32} {v5 : Int32} {v7 : Int32} {s0 : Int32} (e : R_256_69 rec_31 rec_51 v2 v3 v4 v5 v7 s0 h = some r) : G X d 256 69 [some (.ref 84), none, some (.int v2), some (.int v3), some (.int v4), some (.int v5), none, some (.int v7)] [.int s0] h := by
  unfold R_256_69 at e
  have g := gd_s e; clear e; obtain ⟨b0, e⟩ := g
  obtain ⟨x, h2, e1, e2⟩ := bndI_s e
  refine k_256_69 b0 (by omega) (t_226 e1) ?_
  rintro _ _ ⟨rfl, rfl⟩
  exact r_256_88 hd hq hr_31 hr_51 e2
noncomputable def R_256_57 (rec_31 : Int32 → Int32 → Int32 → Int32 → Hp → Option (Int32 × Hp)) (rec_51 : Int32 → Int32 → Int32 → Int32 → Int32 → Int32 → Hp → Option (Int32 × Hp)) (v2 : Int32) (v3 : Int32) (v4 : Int32) (v5 : Int32) (v6 : Int32) (v7 : Int32) (h : Hp) : Option (Int32 × Hp) := gd (IA 92 v7) (if (h 92 (Int32.toNatClampNeg v7)) ≤ 0 then R_256_73 rec_31 rec_51 v2 v3 v4 v5 v7 v6 h else R_256_69 rec_31 rec_51 v2 v3 v4 v5 v7 v6 h)
theorem r_256_57 {X : GX} {d : Nat} {r : Int32 × Hp} (hd : 8 ≤ d) (hq : RtX X none r.2) {rec_31 : Int32 → Int32 → Int32 → Int32 → Hp → Option (Int32 × Hp)} {rec_51 : Int32 → Int32 → Int32 → Int32 → Int32 → Int32 → Hp → Option (Int32 × Hp)} (hr_31 : ∀ {v2 : Int32} {v3 : Int32} {v4 : Int32} {v5 : Int32} {h : Hp}, rec_31 v2 v3 v4 v5 h = some r → G X d 256 31 [some (.ref 84), none, some (.int v2), some (.int v3), some (.int v4), some (.int v5), none, none] [] h) (hr_51 : ∀ {v2 : Int32} {v3 : Int32} {v4 : Int32} {v5 : Int32} {v6 : Int32} {v7 : Int32} {h : Hp}, rec_51 v2 v3 v4 v5 v6 v7 h = some r → G X d 256 51 [some (.ref 84), none, some (.int v2), some (.int v3), some (.int v4), some (.int v5), some (.int v6), some (.int v7)] [] h) {h : Hp} {v2 : Int32} {v3 : Int32} {v4 : Int32} {v5 : Int32} {v6 : Int32} {v7 : Int32} (e : R_256_57 rec_31 rec_51 v2 v3 v4 v5 v6 v7 h = some r) : G X d 256 57 [some (.ref 84), none, some (.int v2), some (.int v3), some (.int v4), some (.int v5), some (.int v6), some (.int v7)] [] h := by
  unfold R_256_57 at e
  have g := gd_s e; clear e; obtain ⟨b0, e⟩ := g
  refine k_256_57 b0 (fun c => ?_) (fun c => ?_)
  · rw [if_pos c] at e; exact r_256_73 hd hq hr_31 hr_51 e
  · rw [if_neg c] at e; exact r_256_69 hd hq hr_31 hr_51 e
noncomputable def R_256_51 (rec_31 : Int32 → Int32 → Int32 → Int32 → Hp → Option (Int32 × Hp)) (rec_51 : Int32 → Int32 → Int32 → Int32 → Int32 → Int32 → Hp → Option (Int32 × Hp)) (v2 : Int32) (v3 : Int32) (v4 : Int32) (v5 : Int32) (v6 : Int32) (v7 : Int32) (h : Hp) : Option (Int32 × Hp) := if v3 ≤ v7 then R_256_95 rec_31 v2 v3 v4 v5 v6 h else R_256_57 rec_31 rec_51 v2 v3 v4 v5 v6 v7 h
theorem r_256_51 {X : GX} {d : Nat} {r : Int32 × Hp} (hd : 8 ≤ d) (hq : RtX X none r.2) {rec_31 : Int32 → Int32 → Int32 → Int32 → Hp → Option (Int32 × Hp)} {rec_51 : Int32 → Int32 → Int32 → Int32 → Int32 → Int32 → Hp → Option (Int32 × Hp)} (hr_31 : ∀ {v2 : Int32} {v3 : Int32} {v4 : Int32} {v5 : Int32} {h : Hp}, rec_31 v2 v3 v4 v5 h = some r → G X d 256 31 [some (.ref 84), none, some (.int v2), some (.int v3), some (.int v4), some (.int v5), none, none] [] h) (hr_51 : ∀ {v2 : Int32} {v3 : Int32} {v4 : Int32} {v5 : Int32} {v6 : Int32} {v7 : Int32} {h : Hp}, rec_51 v2 v3 v4 v5 v6 v7 h = some r → G X d 256 51 [some (.ref 84), none, some (.int v2), some (.int v3), some (.int v4), some (.int v5), some (.int v6), some (.int v7)] [] h) {h : Hp} {v2 : Int32} {v3 : Int32} {v4 : Int32} {v5 : Int32} {v6 : Int32} {v7 : Int32} (e : R_256_51 rec_31 rec_51 v2 v3 v4 v5 v6 v7 h = some r) : G X d 256 51 [some (.ref 84), none, some (.int v2), some (.int v3), some (.int v4), some (.int v5), some (.int v6), some (.int v7)] [] h := by
  unfold R_256_51 at e
  refine k_256_51 (fun c => ?_) (fun c => ?_)
  · rw [if_pos c] at e; exact r_256_95 hd hq hr_31 e
  · rw [if_neg c] at e; exact r_256_57 hd hq hr_31 hr_51 e
noncomputable def H_256_51 (rec_31 : Int32 → Int32 → Int32 → Int32 → Hp → Option (Int32 × Hp)) : Nat → Int32 → Int32 → Int32 → Int32 → Int32 → Int32 → Hp → Option (Int32 × Hp)
  | 0, _, _, _, _, _, _, _ => none
  | n + 1, v2, v3, v4, v5, v6, v7, h => R_256_51 rec_31 (H_256_51 rec_31 n) v2 v3 v4 v5 v6 v7 h
theorem h_256_51 {X : GX} {d : Nat} {r : Int32 × Hp} (hd : 8 ≤ d) (hq : RtX X none r.2) {rec_31 : Int32 → Int32 → Int32 → Int32 → Hp → Option (Int32 × Hp)} (hr_31 : ∀ {v2 : Int32} {v3 : Int32} {v4 : Int32} {v5 : Int32} {h : Hp}, rec_31 v2 v3 v4 v5 h = some r → G X d 256 31 [some (.ref 84), none, some (.int v2), some (.int v3), some (.int v4), some (.int v5), none, none] [] h) {n : Nat} {h : Hp} {v2 : Int32} {v3 : Int32} {v4 : Int32} {v5 : Int32} {v6 : Int32} {v7 : Int32} (e : H_256_51 rec_31 n v2 v3 v4 v5 v6 v7 h = some r) : G X d 256 51 [some (.ref 84), none, some (.int v2), some (.int v3), some (.int v4), some (.int v5), some (.int v6), some (.int v7)] [] h := by
  induction n generalizing v2 v3 v4 v5 v6 v7 h with
  | zero => cases e
  | succ n ih => exact r_256_51 hd hq hr_31 (fun e => ih e) e
noncomputable def R_256_45 (rec_31 : Int32 → Int32 → Int32 → Int32 → Hp → Option (Int32 × Hp)) (v2 : Int32) (v3 : Int32) (v4 : Int32) (v5 : Int32) (h : Hp) : Option (Int32 × Hp) := H_256_51 rec_31 fuL v2 v3 v4 v5 0 0 h
theorem r_256_45 {X : GX} {d : Nat} {r : Int32 × Hp} (hd : 8 ≤ d) (hq : RtX X none r.2) {rec_31 : Int32 → Int32 → Int32 → Int32 → Hp → Option (Int32 × Hp)} (hr_31 : ∀ {v2 : Int32} {v3 : Int32} {v4 : Int32} {v5 : Int32} {h : Hp}, rec_31 v2 v3 v4 v5 h = some r → G X d 256 31 [some (.ref 84), none, some (.int v2), some (.int v3), some (.int v4), some (.int v5), none, none] [] h) {h : Hp} {v2 : Int32} {v3 : Int32} {v4 : Int32} {v5 : Int32} (e : R_256_45 rec_31 v2 v3 v4 v5 h = some r) : G X d 256 45 [some (.ref 84), none, some (.int v2), some (.int v3), some (.int v4), some (.int v5), none, none] [] h := by
  unfold R_256_45 at e
  exact k_256_45 (h_256_51 hd hq hr_31 e)
noncomputable def R_256_38 (rec_31 : Int32 → Int32 → Int32 → Int32 → Hp → Option (Int32 × Hp)) (v2 : Int32) (v3 : Int32) (v4 : Int32) (v5 : Int32) (h : Hp) : Option (Int32 × Hp) := bndV (S_251 v5 v3 h) (R_256_45 rec_31 v2 v3 v4 v5)
theorem r_256_38 {X : GX} {d : Nat} {r : Int32 × Hp} (hd : 8 ≤ d) (hq : RtX X none r.2) {rec_31 : Int32 → Int32 → Int32 → Int32 → Hp → Option (Int32 × Hp)} (hr_31 : ∀ {v2 : Int32} {v3 : Int32} {v4 : Int32} {v5 : Int32} {h : Hp}, rec_31 v2 v3 v4 v5 h = some r → G X d 256 31 [some (.ref 84), none, some (.int v2), some (.int v3), some (.int v4), some (.int v5), none, none] [] h) {h : Hp} {v2 : Int32} {v3 : Int32} {v4 : Int32} {v5 : Int32} (e : R_256_38 rec_31 v2 v3 v4 v5 h = some r) : G X d 256 38 [some (.ref 84), none, some (.int v2), some (.int v3), some (.int v4), some (.int v5), none, none] [] h := by
  unfold R_256_38 at e
  obtain ⟨x, h2, e1, e2⟩ := bndV_s e
  refine k_256_38 (by omega) (t_251 e1) ?_
  rintro _ rfl
  exact r_256_45 hd hq hr_31 e2
noncomputable def R_256_31 (rec_31 : Int32 → Int32 → Int32 → Int32 → Hp → Option (Int32 × Hp)) (v2 : Int32) (v3 : Int32) (v4 : Int32) (v5 : Int32) (h : Hp) : Option (Int32 × Hp) := if v4 ≤ v5 then R_256_160 h else R_256_38 rec_31 v2 v3 v4 v5 h
theorem r_256_31 {X : GX} {d : Nat} {r : Int32 × Hp} (hd : 8 ≤ d) (hq : RtX X none r.2) {rec_31 : Int32 → Int32 → Int32 → Int32 → Hp → Option (Int32 × Hp)} (hr_31 : ∀ {v2 : Int32} {v3 : Int32} {v4 : Int32} {v5 : Int32} {h : Hp}, rec_31 v2 v3 v4 v5 h = some r → G X d 256 31 [some (.ref 84), none, some (.int v2), some (.int v3), some (.int v4), some (.int v5), none, none] [] h) {h : Hp} {v2 : Int32} {v3 : Int32} {v4 : Int32} {v5 : Int32} (e : R_256_31 rec_31 v2 v3 v4 v5 h = some r) : G X d 256 31 [some (.ref 84), none, some (.int v2), some (.int v3), some (.int v4), some (.int v5), none, none] [] h := by
  unfold R_256_31 at e
  refine k_256_31 (fun c => ?_) (fun c => ?_)
  · rw [if_pos c] at e; exact r_256_160 hd hq e
  · rw [if_neg c] at e; exact r_256_38 hd hq hr_31 e
noncomputable def H_256_31 : Nat → Int32 → Int32 → Int32 → Int32 → Hp → Option (Int32 × Hp)
  | 0, _, _, _, _, _ => none
  | n + 1, v2, v3, v4, v5, h => R_256_31 (H_256_31 n) v2 v3 v4 v5 h
theorem h_256_31 {X : GX} {d : Nat} {r : Int32 × Hp} (hd : 8 ≤ d) (hq : RtX X none r.2) {n : Nat} {h : Hp} {v2 : Int32} {v3 : Int32} {v4 : Int32} {v5 : Int32} (e : H_256_31 n v2 v3 v4 v5 h = some r) : G X d 256 31 [some (.ref 84), none, some (.int v2), some (.int v3), some (.int v4), some (.int v5), none, none] [] h := by
  induction n generalizing v2 v3 v4 v5 h with
  | zero => cases e
  | succ n ih => exact r_256_31 hd hq (fun e => ih e) e
noncomputable def R_256_28 (v2 : Int32) (v3 : Int32) (v4 : Int32) (h : Hp) : Option (Int32 × Hp) := H_256_31 fuL v2 v3 v4 0 h
theorem r_256_28 {X : GX} {d : Nat} {r : Int32 × Hp} (hd : 8 ≤ d) (hq : RtX X none r.2) {h : Hp} {v2 : Int32} {v3 : Int32} {v4 : Int32} (e : R_256_28 v2 v3 v4 h = some r) : G X d 256 28 [some (.ref 84), none, some (.int v2), some (.int v3), some (.int v4), none, none, none] [] h := by
  unfold R_256_28 at e
  exact k_256_28 (h_256_31 hd hq e)
noncomputable def R_256_11 (v2 : Int32) (v3 : Int32) (s0 : Int32) (h : Hp) : Option (Int32 × Hp) := bndV (S_229 ((wr (wr h 84 22 ((-3))) 84 23 0))) (R_256_28 v2 v3 s0)
theorem r_256_11 {X : GX} {d : Nat} {r : Int32 × Hp} (hd : 8 ≤ d) (hq : RtX X none r.2) {h : Hp} {v2 : Int32} {v3 : Int32} {s0 : Int32} (e : R_256_11 v2 v3 s0 h = some r) : G X d 256 11 [some (.ref 84), none, some (.int v2), some (.int v3), none, none, none, none] [.int s0] h := by
  unfold R_256_11 at e
  obtain ⟨x, h2, e1, e2⟩ := bndV_s e
  refine k_256_11 (by omega) (t_229 e1) ?_
  rintro _ rfl
  exact r_256_28 hd hq e2
noncomputable def R_256_5 (v1 : Int32) (v2 : Int32) (s0 : Int32) (h : Hp) : Option (Int32 × Hp) := bndI (S_250 v1 h) (R_256_11 v2 s0)
theorem r_256_5 {X : GX} {d : Nat} {r : Int32 × Hp} (hd : 8 ≤ d) (hq : RtX X none r.2) {h : Hp} {v1 : Int32} {v2 : Int32} {s0 : Int32} (e : R_256_5 v1 v2 s0 h = some r) : G X d 256 5 [some (.ref 84), some (.int v1), some (.int v2), none, none, none, none, none] [.int s0] h := by
  unfold R_256_5 at e
  obtain ⟨x, h2, e1, e2⟩ := bndI_s e
  refine k_256_5 (by omega) (t_250 e1) ?_
  rintro _ _ ⟨rfl, rfl⟩
  exact r_256_11 hd hq e2
noncomputable def R_256_0 (v1 : Int32) (v2 : Int32) (h : Hp) : Option (Int32 × Hp) := bndI (S_249 v1 h) (R_256_5 v1 v2)
theorem r_256_0 {X : GX} {d : Nat} {r : Int32 × Hp} (hd : 8 ≤ d) (hq : RtX X none r.2) {h : Hp} {v1 : Int32} {v2 : Int32} (e : R_256_0 v1 v2 h = some r) : G X d 256 0 [some (.ref 84), some (.int v1), some (.int v2), none, none, none, none, none] [] h := by
  unfold R_256_0 at e
  obtain ⟨x, h2, e1, e2⟩ := bndI_s e
  refine k_256_0 (by omega) (t_249 e1) ?_
  rintro _ _ ⟨rfl, rfl⟩
  exact r_256_5 hd hq e2
noncomputable def S_256 (v1 : Int32) (v2 : Int32) (h : Hp) : Option (Int32 × Hp) := R_256_0 v1 v2 h
set_option maxRecDepth 100000 in
theorem t_256 {v1 : Int32} {v2 : Int32} {h : Hp} {r : Int32 × Hp} (e : S_256 v1 v2 h = some r) : CV 8 256 [.ref 84, .int v1, .int v2] h (fun g => g = r.2) := by
  refine C.of mo_256 (Nat.le_of_ble_eq_true rfl) (fun X hq => ?_)
  exact r_256_0 (Nat.le_refl _) (hq _ _ ⟨rfl, rfl⟩) e
/-! 254 PlayedTruthModel.bill(II)I -/
noncomputable def R_254_15 (h : Hp) : Option (Int32 × Hp) := some (((-1)), h)
theorem r_254_15 {X : GX} {d : Nat} {r : Int32 × Hp} (hd : 9 ≤ d) (hq : RtX X (some (.int r.1)) r.2) {h : Hp} (e : R_254_15 h = some r) : G X d 254 15 [none, none, none] [] h := by
  unfold R_254_15 at e
  rw [← Option.some.inj e] at hq
  exact k_254_15 hq
noncomputable def R_254_23 (h : Hp) : Option (Int32 × Hp) := some ((h 84 22), h)
theorem r_254_23 {X : GX} {d : Nat} {r : Int32 × Hp} (hd : 9 ≤ d) (hq : RtX X (some (.int r.1)) r.2) {h : Hp} (e : R_254_23 h = some r) : G X d 254 23 [some (.ref 84), none, none] [] h := by
  unfold R_254_23 at e
  rw [← Option.some.inj e] at hq
  exact k_254_23 hq
noncomputable def R_254_17 (v1 : Int32) (v2 : Int32) (h : Hp) : Option (Int32 × Hp) := bndV (S_256 v1 v2 h) (R_254_23)
theorem r_254_17 {X : GX} {d : Nat} {r : Int32 × Hp} (hd : 9 ≤ d) (hq : RtX X (some (.int r.1)) r.2) {h : Hp} {v1 : Int32} {v2 : Int32} (e : R_254_17 v1 v2 h = some r) : G X d 254 17 [some (.ref 84), some (.int v1), some (.int v2)] [] h := by
  unfold R_254_17 at e
  obtain ⟨x, h2, e1, e2⟩ := bndV_s e
  refine k_254_17 (by omega) (t_256 e1) ?_
  rintro _ rfl
  exact r_254_23 hd hq e2
noncomputable def R_254_12 (v1 : Int32) (v2 : Int32) (s0 : Int32) (h : Hp) : Option (Int32 × Hp) := if s0 = 0 then R_254_15 h else R_254_17 v1 v2 h
theorem r_254_12 {X : GX} {d : Nat} {r : Int32 × Hp} (hd : 9 ≤ d) (hq : RtX X (some (.int r.1)) r.2) {h : Hp} {v1 : Int32} {v2 : Int32} {s0 : Int32} (e : R_254_12 v1 v2 s0 h = some r) : G X d 254 12 [some (.ref 84), some (.int v1), some (.int v2)] [.int s0] h := by
  unfold R_254_12 at e
  refine k_254_12 (fun c => ?_) (fun c => ?_)
  · rw [if_neg c] at e; exact r_254_17 hd hq e
  · rw [if_pos c] at e; exact r_254_15 hd hq e
noncomputable def R_254_7 (v1 : Int32) (v2 : Int32) (h : Hp) : Option (Int32 × Hp) := bndI (S_255 v2 h) (R_254_12 v1 v2)
theorem r_254_7 {X : GX} {d : Nat} {r : Int32 × Hp} (hd : 9 ≤ d) (hq : RtX X (some (.int r.1)) r.2) {h : Hp} {v1 : Int32} {v2 : Int32} (e : R_254_7 v1 v2 h = some r) : G X d 254 7 [some (.ref 84), some (.int v1), some (.int v2)] [] h := by
  unfold R_254_7 at e
  obtain ⟨x, h2, e1, e2⟩ := bndI_s e
  refine k_254_7 (by omega) (t_255 e1) ?_
  rintro _ _ ⟨rfl, rfl⟩
  exact r_254_12 hd hq e2
noncomputable def R_254_4 (v1 : Int32) (v2 : Int32) (s0 : Int32) (h : Hp) : Option (Int32 × Hp) := if s0 = 0 then R_254_15 h else R_254_7 v1 v2 h
theorem r_254_4 {X : GX} {d : Nat} {r : Int32 × Hp} (hd : 9 ≤ d) (hq : RtX X (some (.int r.1)) r.2) {h : Hp} {v1 : Int32} {v2 : Int32} {s0 : Int32} (e : R_254_4 v1 v2 s0 h = some r) : G X d 254 4 [some (.ref 84), some (.int v1), some (.int v2)] [.int s0] h := by
  unfold R_254_4 at e
  refine k_254_4 (fun c => ?_) (fun c => ?_)
  · rw [if_pos c] at e; exact r_254_15 hd hq e
  · rw [if_neg c] at e; exact r_254_7 hd hq e
noncomputable def R_254_0 (v1 : Int32) (v2 : Int32) (h : Hp) : Option (Int32 × Hp) := bndI (S_247 v1 h) (R_254_4 v1 v2)
theorem r_254_0 {X : GX} {d : Nat} {r : Int32 × Hp} (hd : 9 ≤ d) (hq : RtX X (some (.int r.1)) r.2) {h : Hp} {v1 : Int32} {v2 : Int32} (e : R_254_0 v1 v2 h = some r) : G X d 254 0 [some (.ref 84), some (.int v1), some (.int v2)] [] h := by
  unfold R_254_0 at e
  obtain ⟨x, h2, e1, e2⟩ := bndI_s e
  refine k_254_0 (by omega) (t_247 e1) ?_
  rintro _ _ ⟨rfl, rfl⟩
  exact r_254_4 hd hq e2
noncomputable def S_254 (v1 : Int32) (v2 : Int32) (h : Hp) : Option (Int32 × Hp) := R_254_0 v1 v2 h
set_option maxRecDepth 100000 in
theorem t_254 {v1 : Int32} {v2 : Int32} {h : Hp} {r : Int32 × Hp} (e : S_254 v1 v2 h = some r) : CI 9 254 [.ref 84, .int v1, .int v2] h (fun x g => x = r.1 ∧ g = r.2) := by
  refine C.of mo_254 (Nat.le_of_ble_eq_true rfl) (fun X hq => ?_)
  exact r_254_0 (Nat.le_refl _) (hq _ _ ⟨_, rfl, rfl, rfl⟩) e
/-! 257 PlayedTruthModel.bars(II)I -/
noncomputable def R_257_15 (h : Hp) : Option (Int32 × Hp) := some (((-1)), h)
theorem r_257_15 {X : GX} {d : Nat} {r : Int32 × Hp} (hd : 9 ≤ d) (hq : RtX X (some (.int r.1)) r.2) {h : Hp} (e : R_257_15 h = some r) : G X d 257 15 [none, none, none, none] [] h := by
  unfold R_257_15 at e
  rw [← Option.some.inj e] at hq
  exact k_257_15 hq
noncomputable def R_257_63 (h : Hp) : Option (Int32 × Hp) := some (((-3)), h)
theorem r_257_63 {X : GX} {d : Nat} {r : Int32 × Hp} (hd : 9 ≤ d) (hq : RtX X (some (.int r.1)) r.2) {h : Hp} (e : R_257_63 h = some r) : G X d 257 63 [none, none, none, none] [] h := by
  unfold R_257_63 at e
  rw [← Option.some.inj e] at hq
  exact k_257_63 hq
noncomputable def R_257_57 (rec_25 : Int32 → Int32 → Hp → Option (Int32 × Hp)) (v2 : Int32) (v3 : Int32) (h : Hp) : Option (Int32 × Hp) := rec_25 v2 (v3 + 1) h
theorem r_257_57 {X : GX} {d : Nat} {r : Int32 × Hp} (hd : 9 ≤ d) (hq : RtX X (some (.int r.1)) r.2) {rec_25 : Int32 → Int32 → Hp → Option (Int32 × Hp)} (hr_25 : ∀ {v2 : Int32} {v3 : Int32} {h : Hp}, rec_25 v2 v3 h = some r → G X d 257 25 [some (.ref 84), none, some (.int v2), some (.int v3)] [] h) {h : Hp} {v2 : Int32} {v3 : Int32} (e : R_257_57 rec_25 v2 v3 h = some r) : G X d 257 57 [some (.ref 84), none, some (.int v2), some (.int v3)] [] h := by
  unfold R_257_57 at e
  exact k_257_57 (hr_25 e)
noncomputable def R_257_55 (v3 : Int32) (h : Hp) : Option (Int32 × Hp) := some (v3, h)
theorem r_257_55 {X : GX} {d : Nat} {r : Int32 × Hp} (hd : 9 ≤ d) (hq : RtX X (some (.int r.1)) r.2) {h : Hp} {v3 : Int32} (e : R_257_55 v3 h = some r) : G X d 257 55 [none, none, none, some (.int v3)] [] h := by
  unfold R_257_55 at e
  rw [← Option.some.inj e] at hq
  exact k_257_55 hq
noncomputable def R_257_44 (rec_25 : Int32 → Int32 → Hp → Option (Int32 × Hp)) (v2 : Int32) (v3 : Int32) (h : Hp) : Option (Int32 × Hp) := if (((h 84 23) >>> (v3 &&& 31)) &&& 1) = 0 then R_257_55 v3 h else R_257_57 rec_25 v2 v3 h
theorem r_257_44 {X : GX} {d : Nat} {r : Int32 × Hp} (hd : 9 ≤ d) (hq : RtX X (some (.int r.1)) r.2) {rec_25 : Int32 → Int32 → Hp → Option (Int32 × Hp)} (hr_25 : ∀ {v2 : Int32} {v3 : Int32} {h : Hp}, rec_25 v2 v3 h = some r → G X d 257 25 [some (.ref 84), none, some (.int v2), some (.int v3)] [] h) {h : Hp} {v2 : Int32} {v3 : Int32} (e : R_257_44 rec_25 v2 v3 h = some r) : G X d 257 44 [some (.ref 84), none, some (.int v2), some (.int v3)] [] h := by
  unfold R_257_44 at e
  refine k_257_44 (fun c => ?_) (fun c => ?_)
  · rw [if_neg c] at e; exact r_257_57 hd hq hr_25 e
  · rw [if_pos c] at e; exact r_257_55 hd hq e
noncomputable def R_257_35 (rec_25 : Int32 → Int32 → Hp → Option (Int32 × Hp)) (v2 : Int32) (v3 : Int32) (h : Hp) : Option (Int32 × Hp) := if ((v2 >>> (v3 &&& 31)) &&& 1) = 1 then R_257_44 rec_25 v2 v3 h else R_257_57 rec_25 v2 v3 h
theorem r_257_35 {X : GX} {d : Nat} {r : Int32 × Hp} (hd : 9 ≤ d) (hq : RtX X (some (.int r.1)) r.2) {rec_25 : Int32 → Int32 → Hp → Option (Int32 × Hp)} (hr_25 : ∀ {v2 : Int32} {v3 : Int32} {h : Hp}, rec_25 v2 v3 h = some r → G X d 257 25 [some (.ref 84), none, some (.int v2), some (.int v3)] [] h) {h : Hp} {v2 : Int32} {v3 : Int32} (e : R_257_35 rec_25 v2 v3 h = some r) : G X d 257 35 [some (.ref 84), none, some (.int v2), some (.int v3)] [] h := by
  unfold R_257_35 at e
  refine k_257_35 (fun c => ?_) (fun c => ?_)
  · rw [if_neg c] at e; exact r_257_57 hd hq hr_25 e
  · rw [if_pos c] at e; exact r_257_44 hd hq hr_25 e
noncomputable def R_257_25 (rec_25 : Int32 → Int32 → Hp → Option (Int32 × Hp)) (v2 : Int32) (v3 : Int32) (h : Hp) : Option (Int32 × Hp) := gd (IA 85 0) (if (h 85 (Int32.toNatClampNeg 0)) ≤ v3 then R_257_63 h else R_257_35 rec_25 v2 v3 h)
theorem r_257_25 {X : GX} {d : Nat} {r : Int32 × Hp} (hd : 9 ≤ d) (hq : RtX X (some (.int r.1)) r.2) {rec_25 : Int32 → Int32 → Hp → Option (Int32 × Hp)} (hr_25 : ∀ {v2 : Int32} {v3 : Int32} {h : Hp}, rec_25 v2 v3 h = some r → G X d 257 25 [some (.ref 84), none, some (.int v2), some (.int v3)] [] h) {h : Hp} {v2 : Int32} {v3 : Int32} (e : R_257_25 rec_25 v2 v3 h = some r) : G X d 257 25 [some (.ref 84), none, some (.int v2), some (.int v3)] [] h := by
  unfold R_257_25 at e
  have g := gd_s e; clear e; obtain ⟨b0, e⟩ := g
  refine k_257_25 b0 (fun c => ?_) (fun c => ?_)
  · rw [if_pos c] at e; exact r_257_63 hd hq e
  · rw [if_neg c] at e; exact r_257_35 hd hq hr_25 e
noncomputable def H_257_25 : Nat → Int32 → Int32 → Hp → Option (Int32 × Hp)
  | 0, _, _, _ => none
  | n + 1, v2, v3, h => R_257_25 (H_257_25 n) v2 v3 h
theorem h_257_25 {X : GX} {d : Nat} {r : Int32 × Hp} (hd : 9 ≤ d) (hq : RtX X (some (.int r.1)) r.2) {n : Nat} {h : Hp} {v2 : Int32} {v3 : Int32} (e : H_257_25 n v2 v3 h = some r) : G X d 257 25 [some (.ref 84), none, some (.int v2), some (.int v3)] [] h := by
  induction n generalizing v2 v3 h with
  | zero => cases e
  | succ n ih => exact r_257_25 hd hq (fun e => ih e) e
noncomputable def R_257_23 (v2 : Int32) (h : Hp) : Option (Int32 × Hp) := H_257_25 fuL v2 0 h
theorem r_257_23 {X : GX} {d : Nat} {r : Int32 × Hp} (hd : 9 ≤ d) (hq : RtX X (some (.int r.1)) r.2) {h : Hp} {v2 : Int32} (e : R_257_23 v2 h = some r) : G X d 257 23 [some (.ref 84), none, some (.int v2), none] [] h := by
  unfold R_257_23 at e
  exact k_257_23 (h_257_25 hd hq e)
noncomputable def R_257_17 (v1 : Int32) (v2 : Int32) (h : Hp) : Option (Int32 × Hp) := bndV (S_256 v1 v2 h) (R_257_23 v2)
theorem r_257_17 {X : GX} {d : Nat} {r : Int32 × Hp} (hd : 9 ≤ d) (hq : RtX X (some (.int r.1)) r.2) {h : Hp} {v1 : Int32} {v2 : Int32} (e : R_257_17 v1 v2 h = some r) : G X d 257 17 [some (.ref 84), some (.int v1), some (.int v2), none] [] h := by
  unfold R_257_17 at e
  obtain ⟨x, h2, e1, e2⟩ := bndV_s e
  refine k_257_17 (by omega) (t_256 e1) ?_
  rintro _ rfl
  exact r_257_23 hd hq e2
noncomputable def R_257_12 (v1 : Int32) (v2 : Int32) (s0 : Int32) (h : Hp) : Option (Int32 × Hp) := if s0 = 0 then R_257_15 h else R_257_17 v1 v2 h
theorem r_257_12 {X : GX} {d : Nat} {r : Int32 × Hp} (hd : 9 ≤ d) (hq : RtX X (some (.int r.1)) r.2) {h : Hp} {v1 : Int32} {v2 : Int32} {s0 : Int32} (e : R_257_12 v1 v2 s0 h = some r) : G X d 257 12 [some (.ref 84), some (.int v1), some (.int v2), none] [.int s0] h := by
  unfold R_257_12 at e
  refine k_257_12 (fun c => ?_) (fun c => ?_)
  · rw [if_neg c] at e; exact r_257_17 hd hq e
  · rw [if_pos c] at e; exact r_257_15 hd hq e
noncomputable def R_257_7 (v1 : Int32) (v2 : Int32) (h : Hp) : Option (Int32 × Hp) := bndI (S_255 v2 h) (R_257_12 v1 v2)
theorem r_257_7 {X : GX} {d : Nat} {r : Int32 × Hp} (hd : 9 ≤ d) (hq : RtX X (some (.int r.1)) r.2) {h : Hp} {v1 : Int32} {v2 : Int32} (e : R_257_7 v1 v2 h = some r) : G X d 257 7 [some (.ref 84), some (.int v1), some (.int v2), none] [] h := by
  unfold R_257_7 at e
  obtain ⟨x, h2, e1, e2⟩ := bndI_s e
  refine k_257_7 (by omega) (t_255 e1) ?_
  rintro _ _ ⟨rfl, rfl⟩
  exact r_257_12 hd hq e2
noncomputable def R_257_4 (v1 : Int32) (v2 : Int32) (s0 : Int32) (h : Hp) : Option (Int32 × Hp) := if s0 = 0 then R_257_15 h else R_257_7 v1 v2 h
theorem r_257_4 {X : GX} {d : Nat} {r : Int32 × Hp} (hd : 9 ≤ d) (hq : RtX X (some (.int r.1)) r.2) {h : Hp} {v1 : Int32} {v2 : Int32} {s0 : Int32} (e : R_257_4 v1 v2 s0 h = some r) : G X d 257 4 [some (.ref 84), some (.int v1), some (.int v2), none] [.int s0] h := by
  unfold R_257_4 at e
  refine k_257_4 (fun c => ?_) (fun c => ?_)
  · rw [if_pos c] at e; exact r_257_15 hd hq e
  · rw [if_neg c] at e; exact r_257_7 hd hq e
noncomputable def R_257_0 (v1 : Int32) (v2 : Int32) (h : Hp) : Option (Int32 × Hp) := bndI (S_247 v1 h) (R_257_4 v1 v2)
theorem r_257_0 {X : GX} {d : Nat} {r : Int32 × Hp} (hd : 9 ≤ d) (hq : RtX X (some (.int r.1)) r.2) {h : Hp} {v1 : Int32} {v2 : Int32} (e : R_257_0 v1 v2 h = some r) : G X d 257 0 [some (.ref 84), some (.int v1), some (.int v2), none] [] h := by
  unfold R_257_0 at e
  obtain ⟨x, h2, e1, e2⟩ := bndI_s e
  refine k_257_0 (by omega) (t_247 e1) ?_
  rintro _ _ ⟨rfl, rfl⟩
  exact r_257_4 hd hq e2
noncomputable def S_257 (v1 : Int32) (v2 : Int32) (h : Hp) : Option (Int32 × Hp) := R_257_0 v1 v2 h
set_option maxRecDepth 100000 in
theorem t_257 {v1 : Int32} {v2 : Int32} {h : Hp} {r : Int32 × Hp} (e : S_257 v1 v2 h = some r) : CI 9 257 [.ref 84, .int v1, .int v2] h (fun x g => x = r.1 ∧ g = r.2) := by
  refine C.of mo_257 (Nat.le_of_ble_eq_true rfl) (fun X hq => ?_)
  exact r_257_0 (Nat.le_refl _) (hq _ _ ⟨_, rfl, rfl, rfl⟩) e
/-! 259 PlayedTruthModel.valueOf(IZ)I -/
noncomputable def R_259_11 (c_259 : Int32 → Int32 → Hp → Option (Int32 × Hp)) (h : Hp) : Option (Int32 × Hp) := some (0, h)
theorem r_259_11 {X : GX} {d : Nat} {r : Int32 × Hp} {c_259 : Int32 → Int32 → Hp → Option (Int32 × Hp)} {dg : Nat} (hd : 8 ≤ d) (hgd : dg < d) (hc_259 : ∀ {v1 : Int32} {v2 : Int32} {h : Hp} {r : Int32 × Hp}, c_259 v1 v2 h = some r → CI dg 259 [.ref 84, .int v1, .int v2] h (fun x g => x = r.1 ∧ g = r.2)) (hq : RtX X (some (.int r.1)) r.2) {h : Hp} (e : R_259_11 c_259 h = some r) : G X d 259 11 [none, none, none, none, none, none] [] h := by
  unfold R_259_11 at e
  rw [← Option.some.inj e] at hq
  exact k_259_11 hq
noncomputable def R_259_104 (c_259 : Int32 → Int32 → Hp → Option (Int32 × Hp)) (v3 : Int32) (h : Hp) : Option (Int32 × Hp) := some (v3, h)
theorem r_259_104 {X : GX} {d : Nat} {r : Int32 × Hp} {c_259 : Int32 → Int32 → Hp → Option (Int32 × Hp)} {dg : Nat} (hd : 8 ≤ d) (hgd : dg < d) (hc_259 : ∀ {v1 : Int32} {v2 : Int32} {h : Hp} {r : Int32 × Hp}, c_259 v1 v2 h = some r → CI dg 259 [.ref 84, .int v1, .int v2] h (fun x g => x = r.1 ∧ g = r.2)) (hq : RtX X (some (.int r.1)) r.2) {h : Hp} {v3 : Int32} (e : R_259_104 c_259 v3 h = some r) : G X d 259 104 [none, none, none, some (.int v3), none, none] [] h := by
  unfold R_259_104 at e
  rw [← Option.some.inj e] at hq
  exact k_259_104 hq
noncomputable def R_259_100 (c_259 : Int32 → Int32 → Hp → Option (Int32 × Hp)) (v3 : Int32) (h : Hp) : Option (Int32 × Hp) := bndV (S_231 h) (R_259_104 c_259 v3)
theorem r_259_100 {X : GX} {d : Nat} {r : Int32 × Hp} {c_259 : Int32 → Int32 → Hp → Option (Int32 × Hp)} {dg : Nat} (hd : 8 ≤ d) (hgd : dg < d) (hc_259 : ∀ {v1 : Int32} {v2 : Int32} {h : Hp} {r : Int32 × Hp}, c_259 v1 v2 h = some r → CI dg 259 [.ref 84, .int v1, .int v2] h (fun x g => x = r.1 ∧ g = r.2)) (hq : RtX X (some (.int r.1)) r.2) {h : Hp} {v3 : Int32} (e : R_259_100 c_259 v3 h = some r) : G X d 259 100 [some (.ref 84), none, none, some (.int v3), none, none] [] h := by
  unfold R_259_100 at e
  obtain ⟨x, h2, e1, e2⟩ := bndV_s e
  refine k_259_100 (by omega) (t_231 e1) ?_
  rintro _ rfl
  exact r_259_104 hd hgd hc_259 hq e2
noncomputable def R_259_92 (c_259 : Int32 → Int32 → Hp → Option (Int32 × Hp)) (rec_32 : Int32 → Int32 → Int32 → Int32 → Hp → Option (Int32 × Hp)) (v1 : Int32) (v2 : Int32) (v3 : Int32) (v4 : Int32) (h : Hp) : Option (Int32 × Hp) := rec_32 v1 v2 v3 (v4 + 1) h
theorem r_259_92 {X : GX} {d : Nat} {r : Int32 × Hp} {c_259 : Int32 → Int32 → Hp → Option (Int32 × Hp)} {dg : Nat} (hd : 8 ≤ d) (hgd : dg < d) (hc_259 : ∀ {v1 : Int32} {v2 : Int32} {h : Hp} {r : Int32 × Hp}, c_259 v1 v2 h = some r → CI dg 259 [.ref 84, .int v1, .int v2] h (fun x g => x = r.1 ∧ g = r.2)) (hq : RtX X (some (.int r.1)) r.2) {rec_32 : Int32 → Int32 → Int32 → Int32 → Hp → Option (Int32 × Hp)} (hr_32 : ∀ {v1 : Int32} {v2 : Int32} {v3 : Int32} {v4 : Int32} {h : Hp}, rec_32 v1 v2 v3 v4 h = some r → G X d 259 32 [some (.ref 84), some (.int v1), some (.int v2), some (.int v3), some (.int v4), none] [] h) {h : Hp} {v1 : Int32} {v2 : Int32} {v3 : Int32} {v4 : Int32} (e : R_259_92 c_259 rec_32 v1 v2 v3 v4 h = some r) : G X d 259 92 [some (.ref 84), some (.int v1), some (.int v2), some (.int v3), some (.int v4), none] [] h := by
  unfold R_259_92 at e
  exact k_259_92 (hr_32 e)
noncomputable def R_259_87 (c_259 : Int32 → Int32 → Hp → Option (Int32 × Hp)) (rec_32 : Int32 → Int32 → Int32 → Int32 → Hp → Option (Int32 × Hp)) (v1 : Int32) (v2 : Int32) (v4 : Int32) (v5 : Int32) (h : Hp) : Option (Int32 × Hp) := rec_32 v1 v2 v5 (v4 + 1) h
theorem r_259_87 {X : GX} {d : Nat} {r : Int32 × Hp} {c_259 : Int32 → Int32 → Hp → Option (Int32 × Hp)} {dg : Nat} (hd : 8 ≤ d) (hgd : dg < d) (hc_259 : ∀ {v1 : Int32} {v2 : Int32} {h : Hp} {r : Int32 × Hp}, c_259 v1 v2 h = some r → CI dg 259 [.ref 84, .int v1, .int v2] h (fun x g => x = r.1 ∧ g = r.2)) (hq : RtX X (some (.int r.1)) r.2) {rec_32 : Int32 → Int32 → Int32 → Int32 → Hp → Option (Int32 × Hp)} (hr_32 : ∀ {v1 : Int32} {v2 : Int32} {v3 : Int32} {v4 : Int32} {h : Hp}, rec_32 v1 v2 v3 v4 h = some r → G X d 259 32 [some (.ref 84), some (.int v1), some (.int v2), some (.int v3), some (.int v4), none] [] h) {h : Hp} {v1 : Int32} {v2 : Int32} {v4 : Int32} {v5 : Int32} (e : R_259_87 c_259 rec_32 v1 v2 v4 v5 h = some r) : G X d 259 87 [some (.ref 84), some (.int v1), some (.int v2), none, some (.int v4), some (.int v5)] [] h := by
  unfold R_259_87 at e
  exact k_259_87 (hr_32 e)
noncomputable def R_259_83 (c_259 : Int32 → Int32 → Hp → Option (Int32 × Hp)) (rec_32 : Int32 → Int32 → Int32 → Int32 → Hp → Option (Int32 × Hp)) (v1 : Int32) (v2 : Int32) (v3 : Int32) (v4 : Int32) (v5 : Int32) (s0 : Int32) (h : Hp) : Option (Int32 × Hp) := if s0 = 0 then R_259_87 c_259 rec_32 v1 v2 v4 v5 h else R_259_92 c_259 rec_32 v1 v2 v3 v4 h
theorem r_259_83 {X : GX} {d : Nat} {r : Int32 × Hp} {c_259 : Int32 → Int32 → Hp → Option (Int32 × Hp)} {dg : Nat} (hd : 8 ≤ d) (hgd : dg < d) (hc_259 : ∀ {v1 : Int32} {v2 : Int32} {h : Hp} {r : Int32 × Hp}, c_259 v1 v2 h = some r → CI dg 259 [.ref 84, .int v1, .int v2] h (fun x g => x = r.1 ∧ g = r.2)) (hq : RtX X (some (.int r.1)) r.2) {rec_32 : Int32 → Int32 → Int32 → Int32 → Hp → Option (Int32 × Hp)} (hr_32 : ∀ {v1 : Int32} {v2 : Int32} {v3 : Int32} {v4 : Int32} {h : Hp}, rec_32 v1 v2 v3 v4 h = some r → G X d 259 32 [some (.ref 84), some (.int v1), some (.int v2), some (.int v3), some (.int v4), none] [] h) {h : Hp} {v1 : Int32} {v2 : Int32} {v3 : Int32} {v4 : Int32} {v5 : Int32} {s0 : Int32} (e : R_259_83 c_259 rec_32 v1 v2 v3 v4 v5 s0 h = some r) : G X d 259 83 [some (.ref 84), some (.int v1), some (.int v2), some (.int v3), some (.int v4), some (.int v5)] [.int s0] h := by
  unfold R_259_83 at e
  refine k_259_83 (fun c => ?_) (fun c => ?_)
  · rw [if_neg c] at e; exact r_259_92 hd hgd hc_259 hq hr_32 e
  · rw [if_pos c] at e; exact r_259_87 hd hgd hc_259 hq hr_32 e
noncomputable def R_259_79 (c_259 : Int32 → Int32 → Hp → Option (Int32 × Hp)) (rec_32 : Int32 → Int32 → Int32 → Int32 → Hp → Option (Int32 × Hp)) (v1 : Int32) (v2 : Int32) (v3 : Int32) (v4 : Int32) (v5 : Int32) (s0 : Int32) (h : Hp) : Option (Int32 × Hp) := if s0 = 1 then R_259_87 c_259 rec_32 v1 v2 v4 v5 h else R_259_92 c_259 rec_32 v1 v2 v3 v4 h
theorem r_259_79 {X : GX} {d : Nat} {r : Int32 × Hp} {c_259 : Int32 → Int32 → Hp → Option (Int32 × Hp)} {dg : Nat} (hd : 8 ≤ d) (hgd : dg < d) (hc_259 : ∀ {v1 : Int32} {v2 : Int32} {h : Hp} {r : Int32 × Hp}, c_259 v1 v2 h = some r → CI dg 259 [.ref 84, .int v1, .int v2] h (fun x g => x = r.1 ∧ g = r.2)) (hq : RtX X (some (.int r.1)) r.2) {rec_32 : Int32 → Int32 → Int32 → Int32 → Hp → Option (Int32 × Hp)} (hr_32 : ∀ {v1 : Int32} {v2 : Int32} {v3 : Int32} {v4 : Int32} {h : Hp}, rec_32 v1 v2 v3 v4 h = some r → G X d 259 32 [some (.ref 84), some (.int v1), some (.int v2), some (.int v3), some (.int v4), none] [] h) {h : Hp} {v1 : Int32} {v2 : Int32} {v3 : Int32} {v4 : Int32} {v5 : Int32} {s0 : Int32} (e : R_259_79 c_259 rec_32 v1 v2 v3 v4 v5 s0 h = some r) : G X d 259 79 [some (.ref 84), some (.int v1), some (.int v2), some (.int v3), some (.int v4), some (.int v5)] [.int s0] h := by
  unfold R_259_79 at e
  refine k_259_79 (fun c => ?_) (fun c => ?_)
  · rw [if_neg c] at e; exact r_259_92 hd hgd hc_259 hq hr_32 e
  · rw [if_pos c] at e; exact r_259_87 hd hgd hc_259 hq hr_32 e
noncomputable def R_259_72 (c_259 : Int32 → Int32 → Hp → Option (Int32 × Hp)) (rec_32 : Int32 → Int32 → Int32 → Int32 → Hp → Option (Int32 × Hp)) (v1 : Int32) (v2 : Int32) (v3 : Int32) (v4 : Int32) (v5 : Int32) (h : Hp) : Option (Int32 × Hp) := if v5 ≤ v3 then R_259_83 c_259 rec_32 v1 v2 v3 v4 v5 v2 h else R_259_79 c_259 rec_32 v1 v2 v3 v4 v5 v2 h
theorem r_259_72 {X : GX} {d : Nat} {r : Int32 × Hp} {c_259 : Int32 → Int32 → Hp → Option (Int32 × Hp)} {dg : Nat} (hd : 8 ≤ d) (hgd : dg < d) (hc_259 : ∀ {v1 : Int32} {v2 : Int32} {h : Hp} {r : Int32 × Hp}, c_259 v1 v2 h = some r → CI dg 259 [.ref 84, .int v1, .int v2] h (fun x g => x = r.1 ∧ g = r.2)) (hq : RtX X (some (.int r.1)) r.2) {rec_32 : Int32 → Int32 → Int32 → Int32 → Hp → Option (Int32 × Hp)} (hr_32 : ∀ {v1 : Int32} {v2 : Int32} {v3 : Int32} {v4 : Int32} {h : Hp}, rec_32 v1 v2 v3 v4 h = some r → G X d 259 32 [some (.ref 84), some (.int v1), some (.int v2), some (.int v3), some (.int v4), none] [] h) {h : Hp} {v1 : Int32} {v2 : Int32} {v3 : Int32} {v4 : Int32} {v5 : Int32} (e : R_259_72 c_259 rec_32 v1 v2 v3 v4 v5 h = some r) : G X d 259 72 [some (.ref 84), some (.int v1), some (.int v2), some (.int v3), some (.int v4), some (.int v5)] [] h := by
  unfold R_259_72 at e
  refine k_259_72 (fun c => ?_) (fun c => ?_)
  · rw [if_pos c] at e; exact r_259_83 hd hgd hc_259 hq hr_32 e
  · rw [if_neg c] at e; exact r_259_79 hd hgd hc_259 hq hr_32 e
noncomputable def R_259_65 (c_259 : Int32 → Int32 → Hp → Option (Int32 × Hp)) (rec_32 : Int32 → Int32 → Int32 → Int32 → Hp → Option (Int32 × Hp)) (v1 : Int32) (v2 : Int32) (v3 : Int32) (v4 : Int32) (s1 : Int32) (s0 : Int32) (h : Hp) : Option (Int32 × Hp) := bndV (S_232 h) (R_259_72 c_259 rec_32 v1 v2 v3 v4 (s1 + s0))
theorem r_259_65 {X : GX} {d : Nat} {r : Int32 × Hp} {c_259 : Int32 → Int32 → Hp → Option (Int32 × Hp)} {dg : Nat} (hd : 8 ≤ d) (hgd : dg < d) (hc_259 : ∀ {v1 : Int32} {v2 : Int32} {h : Hp} {r : Int32 × Hp}, c_259 v1 v2 h = some r → CI dg 259 [.ref 84, .int v1, .int v2] h (fun x g => x = r.1 ∧ g = r.2)) (hq : RtX X (some (.int r.1)) r.2) {rec_32 : Int32 → Int32 → Int32 → Int32 → Hp → Option (Int32 × Hp)} (hr_32 : ∀ {v1 : Int32} {v2 : Int32} {v3 : Int32} {v4 : Int32} {h : Hp}, rec_32 v1 v2 v3 v4 h = some r → G X d 259 32 [some (.ref 84), some (.int v1), some (.int v2), some (.int v3), some (.int v4), none] [] h) {h : Hp} {v1 : Int32} {v2 : Int32} {v3 : Int32} {v4 : Int32} {s1 : Int32} {s0 : Int32} (e : R_259_65 c_259 rec_32 v1 v2 v3 v4 s1 s0 h = some r) : G X d 259 65 [some (.ref 84), some (.int v1), some (.int v2), some (.int v3), some (.int v4), none] [.int s0, .int s1] h := by
  unfold R_259_65 at e
  obtain ⟨x, h2, e1, e2⟩ := bndV_s e
  refine k_259_65 (by omega) (t_232 e1) ?_
  rintro _ rfl
  exact r_259_72 hd hgd hc_259 hq hr_32 e2
noncomputable def R_259_61 (c_259 : Int32 → Int32 → Hp → Option (Int32 × Hp)) (rec_32 : Int32 → Int32 → Int32 → Int32 → Hp → Option (Int32 × Hp)) (v1 : Int32) (v2 : Int32) (v3 : Int32) (v4 : Int32) (s1 : Nat) (s2 : Int32) (s0 : Int32) (h : Hp) : Option (Int32 × Hp) := gd (sh s1 = (1, 9) ∧ s1 = 84) (bndI (c_259 s0 0 h) (R_259_65 c_259 rec_32 v1 v2 v3 v4 s2))
theorem r_259_61 {X : GX} {d : Nat} {r : Int32 × Hp} {c_259 : Int32 → Int32 → Hp → Option (Int32 × Hp)} {dg : Nat} (hd : 8 ≤ d) (hgd : dg < d) (hc_259 : ∀ {v1 : Int32} {v2 : Int32} {h : Hp} {r : Int32 × Hp}, c_259 v1 v2 h = some r → CI dg 259 [.ref 84, .int v1, .int v2] h (fun x g => x = r.1 ∧ g = r.2)) (hq : RtX X (some (.int r.1)) r.2) {rec_32 : Int32 → Int32 → Int32 → Int32 → Hp → Option (Int32 × Hp)} (hr_32 : ∀ {v1 : Int32} {v2 : Int32} {v3 : Int32} {v4 : Int32} {h : Hp}, rec_32 v1 v2 v3 v4 h = some r → G X d 259 32 [some (.ref 84), some (.int v1), some (.int v2), some (.int v3), some (.int v4), none] [] h) {h : Hp} {v1 : Int32} {v2 : Int32} {v3 : Int32} {v4 : Int32} {s1 : Nat} {s2 : Int32} {s0 : Int32} (e : R_259_61 c_259 rec_32 v1 v2 v3 v4 s1 s2 s0 h = some r) : G X d 259 61 [some (.ref 84), some (.int v1), some (.int v2), some (.int v3), some (.int v4), none] [.int s0, .ref s1, .int s2] h := by
  unfold R_259_61 at e
  have g := gd_s e; clear e; obtain ⟨⟨o0, q0⟩, e⟩ := g
  subst q0
  obtain ⟨x, h2, e1, e2⟩ := bndI_s e
  refine k_259_61 o0 hgd (hc_259 e1) ?_
  rintro _ _ ⟨rfl, rfl⟩
  exact r_259_65 hd hgd hc_259 hq hr_32 e2
noncomputable def R_259_57 (c_259 : Int32 → Int32 → Hp → Option (Int32 × Hp)) (rec_32 : Int32 → Int32 → Int32 → Int32 → Hp → Option (Int32 × Hp)) (v1 : Int32) (v2 : Int32) (v3 : Int32) (v4 : Int32) (s1 : Nat) (s2 : Int32) (s0 : Int32) (h : Hp) : Option (Int32 × Hp) := gd (sh s1 = (1, 9) ∧ s1 = 84) (bndI (c_259 s0 1 h) (R_259_65 c_259 rec_32 v1 v2 v3 v4 s2))
theorem r_259_57 {X : GX} {d : Nat} {r : Int32 × Hp} {c_259 : Int32 → Int32 → Hp → Option (Int32 × Hp)} {dg : Nat} (hd : 8 ≤ d) (hgd : dg < d) (hc_259 : ∀ {v1 : Int32} {v2 : Int32} {h : Hp} {r : Int32 × Hp}, c_259 v1 v2 h = some r → CI dg 259 [.ref 84, .int v1, .int v2] h (fun x g => x = r.1 ∧ g = r.2)) (hq : RtX X (some (.int r.1)) r.2) {rec_32 : Int32 → Int32 → Int32 → Int32 → Hp → Option (Int32 × Hp)} (hr_32 : ∀ {v1 : Int32} {v2 : Int32} {v3 : Int32} {v4 : Int32} {h : Hp}, rec_32 v1 v2 v3 v4 h = some r → G X d 259 32 [some (.ref 84), some (.int v1), some (.int v2), some (.int v3), some (.int v4), none] [] h) {h : Hp} {v1 : Int32} {v2 : Int32} {v3 : Int32} {v4 : Int32} {s1 : Nat} {s2 : Int32} {s0 : Int32} (e : R_259_57 c_259 rec_32 v1 v2 v3 v4 s1 s2 s0 h = some r) : G X d 259 57 [some (.ref 84), some (.int v1), some (.int v2), some (.int v3), some (.int v4), none] [.int s0, .ref s1, .int s2] h := by
  unfold R_259_57 at e
  have g := gd_s e; clear e; obtain ⟨⟨o0, q0⟩, e⟩ := g
  subst q0
  obtain ⟨x, h2, e1, e2⟩ := bndI_s e
  refine k_259_57 o0 hgd (hc_259 e1) ?_
  rintro _ _ ⟨rfl, rfl⟩
  exact r_259_65 hd hgd hc_259 hq hr_32 e2
noncomputable def R_259_49 (c_259 : Int32 → Int32 → Hp → Option (Int32 × Hp)) (rec_32 : Int32 → Int32 → Int32 → Int32 → Hp → Option (Int32 × Hp)) (v1 : Int32) (v2 : Int32) (v3 : Int32) (v4 : Int32) (s0 : Int32) (h : Hp) : Option (Int32 × Hp) := if v2 = 0 then R_259_57 c_259 rec_32 v1 v2 v3 v4 84 s0 (v1 - 1) h else R_259_61 c_259 rec_32 v1 v2 v3 v4 84 s0 (v1 - 1) h
theorem r_259_49 {X : GX} {d : Nat} {r : Int32 × Hp} {c_259 : Int32 → Int32 → Hp → Option (Int32 × Hp)} {dg : Nat} (hd : 8 ≤ d) (hgd : dg < d) (hc_259 : ∀ {v1 : Int32} {v2 : Int32} {h : Hp} {r : Int32 × Hp}, c_259 v1 v2 h = some r → CI dg 259 [.ref 84, .int v1, .int v2] h (fun x g => x = r.1 ∧ g = r.2)) (hq : RtX X (some (.int r.1)) r.2) {rec_32 : Int32 → Int32 → Int32 → Int32 → Hp → Option (Int32 × Hp)} (hr_32 : ∀ {v1 : Int32} {v2 : Int32} {v3 : Int32} {v4 : Int32} {h : Hp}, rec_32 v1 v2 v3 v4 h = some r → G X d 259 32 [some (.ref 84), some (.int v1), some (.int v2), some (.int v3), some (.int v4), none] [] h) {h : Hp} {v1 : Int32} {v2 : Int32} {v3 : Int32} {v4 : Int32} {s0 : Int32} (e : R_259_49 c_259 rec_32 v1 v2 v3 v4 s0 h = some r) : G X d 259 49 [some (.ref 84), some (.int v1), some (.int v2), some (.int v3), some (.int v4), none] [.int s0] h := by
  unfold R_259_49 at e
  refine k_259_49 (fun c => ?_) (fun c => ?_)
  · rw [if_neg c] at e; exact r_259_61 hd hgd hc_259 hq hr_32 e
  · rw [if_pos c] at e; exact r_259_57 hd hgd hc_259 hq hr_32 e
noncomputable def R_259_43 (c_259 : Int32 → Int32 → Hp → Option (Int32 × Hp)) (rec_32 : Int32 → Int32 → Int32 → Int32 → Hp → Option (Int32 × Hp)) (v1 : Int32) (v2 : Int32) (v3 : Int32) (v4 : Int32) (h : Hp) : Option (Int32 × Hp) := bndI (S_226 v4 h) (R_259_49 c_259 rec_32 v1 v2 v3 v4)
theorem r_259_43 {X : GX} {d : Nat} {r : Int32 × Hp} {c_259 : Int32 → Int32 → Hp → Option (Int32 × Hp)} {dg : Nat} (hd : 8 ≤ d) (hgd : dg < d) (hc_259 : ∀ {v1 : Int32} {v2 : Int32} {h : Hp} {r : Int32 × Hp}, c_259 v1 v2 h = some r → CI dg 259 [.ref 84, .int v1, .int v2] h (fun x g => x = r.1 ∧ g = r.2)) (hq : RtX X (some (.int r.1)) r.2) {rec_32 : Int32 → Int32 → Int32 → Int32 → Hp → Option (Int32 × Hp)} (hr_32 : ∀ {v1 : Int32} {v2 : Int32} {v3 : Int32} {v4 : Int32} {h : Hp}, rec_32 v1 v2 v3 v4 h = some r → G X d 259 32 [some (.ref 84), some (.int v1), some (.int v2), some (.int v3), some (.int v4), none] [] h) {h : Hp} {v1 : Int32} {v2 : Int32} {v3 : Int32} {v4 : Int32} (e : R_259_43 c_259 rec_32 v1 v2 v3 v4 h = some r) : G X d 259 43 [some (.ref 84), some (.int v1), some (.int v2), some (.int v3), some (.int v4), none] [] h := by
  unfold R_259_43 at e
  obtain ⟨x, h2, e1, e2⟩ := bndI_s e
  refine k_259_43 (by omega) (t_226 e1) ?_
  rintro _ _ ⟨rfl, rfl⟩
  exact r_259_49 hd hgd hc_259 hq hr_32 e2
noncomputable def R_259_32 (c_259 : Int32 → Int32 → Hp → Option (Int32 × Hp)) (rec_32 : Int32 → Int32 → Int32 → Int32 → Hp → Option (Int32 × Hp)) (v1 : Int32) (v2 : Int32) (v3 : Int32) (v4 : Int32) (h : Hp) : Option (Int32 × Hp) := gd (IA 85 0) (if (h 85 (Int32.toNatClampNeg 0)) < v4 then R_259_100 c_259 v3 h else R_259_43 c_259 rec_32 v1 v2 v3 v4 h)
theorem r_259_32 {X : GX} {d : Nat} {r : Int32 × Hp} {c_259 : Int32 → Int32 → Hp → Option (Int32 × Hp)} {dg : Nat} (hd : 8 ≤ d) (hgd : dg < d) (hc_259 : ∀ {v1 : Int32} {v2 : Int32} {h : Hp} {r : Int32 × Hp}, c_259 v1 v2 h = some r → CI dg 259 [.ref 84, .int v1, .int v2] h (fun x g => x = r.1 ∧ g = r.2)) (hq : RtX X (some (.int r.1)) r.2) {rec_32 : Int32 → Int32 → Int32 → Int32 → Hp → Option (Int32 × Hp)} (hr_32 : ∀ {v1 : Int32} {v2 : Int32} {v3 : Int32} {v4 : Int32} {h : Hp}, rec_32 v1 v2 v3 v4 h = some r → G X d 259 32 [some (.ref 84), some (.int v1), some (.int v2), some (.int v3), some (.int v4), none] [] h) {h : Hp} {v1 : Int32} {v2 : Int32} {v3 : Int32} {v4 : Int32} (e : R_259_32 c_259 rec_32 v1 v2 v3 v4 h = some r) : G X d 259 32 [some (.ref 84), some (.int v1), some (.int v2), some (.int v3), some (.int v4), none] [] h := by
  unfold R_259_32 at e
  have g := gd_s e; clear e; obtain ⟨b0, e⟩ := g
  refine k_259_32 b0 (fun c => ?_) (fun c => ?_)
  · rw [if_pos c] at e; exact r_259_100 hd hgd hc_259 hq e
  · rw [if_neg c] at e; exact r_259_43 hd hgd hc_259 hq hr_32 e
noncomputable def H_259_32 (c_259 : Int32 → Int32 → Hp → Option (Int32 × Hp)) : Nat → Int32 → Int32 → Int32 → Int32 → Hp → Option (Int32 × Hp)
  | 0, _, _, _, _, _ => none
  | n + 1, v1, v2, v3, v4, h => R_259_32 c_259 (H_259_32 c_259 n) v1 v2 v3 v4 h
theorem h_259_32 {X : GX} {d : Nat} {r : Int32 × Hp} {c_259 : Int32 → Int32 → Hp → Option (Int32 × Hp)} {dg : Nat} (hd : 8 ≤ d) (hgd : dg < d) (hc_259 : ∀ {v1 : Int32} {v2 : Int32} {h : Hp} {r : Int32 × Hp}, c_259 v1 v2 h = some r → CI dg 259 [.ref 84, .int v1, .int v2] h (fun x g => x = r.1 ∧ g = r.2)) (hq : RtX X (some (.int r.1)) r.2) {n : Nat} {h : Hp} {v1 : Int32} {v2 : Int32} {v3 : Int32} {v4 : Int32} (e : H_259_32 c_259 n v1 v2 v3 v4 h = some r) : G X d 259 32 [some (.ref 84), some (.int v1), some (.int v2), some (.int v3), some (.int v4), none] [] h := by
  induction n generalizing v1 v2 v3 v4 h with
  | zero => cases e
  | succ n ih => exact r_259_32 hd hgd hc_259 hq (fun e => ih e) e
noncomputable def R_259_29 (c_259 : Int32 → Int32 → Hp → Option (Int32 × Hp)) (v1 : Int32) (v2 : Int32) (v3 : Int32) (h : Hp) : Option (Int32 × Hp) := H_259_32 c_259 fuL v1 v2 v3 0 h
theorem r_259_29 {X : GX} {d : Nat} {r : Int32 × Hp} {c_259 : Int32 → Int32 → Hp → Option (Int32 × Hp)} {dg : Nat} (hd : 8 ≤ d) (hgd : dg < d) (hc_259 : ∀ {v1 : Int32} {v2 : Int32} {h : Hp} {r : Int32 × Hp}, c_259 v1 v2 h = some r → CI dg 259 [.ref 84, .int v1, .int v2] h (fun x g => x = r.1 ∧ g = r.2)) (hq : RtX X (some (.int r.1)) r.2) {h : Hp} {v1 : Int32} {v2 : Int32} {v3 : Int32} (e : R_259_29 c_259 v1 v2 v3 h = some r) : G X d 259 29 [some (.ref 84), some (.int v1), some (.int v2), some (.int v3), none, none] [] h := by
  unfold R_259_29 at e
  exact k_259_29 (h_259_32 hd hgd hc_259 hq e)
noncomputable def R_259_21 (c_259 : Int32 → Int32 → Hp → Option (Int32 × Hp)) (v1 : Int32) (v2 : Int32) (h : Hp) : Option (Int32 × Hp) := bndV (S_229 h) (R_259_29 c_259 v1 v2 1000000)
theorem r_259_21 {X : GX} {d : Nat} {r : Int32 × Hp} {c_259 : Int32 → Int32 → Hp → Option (Int32 × Hp)} {dg : Nat} (hd : 8 ≤ d) (hgd : dg < d) (hc_259 : ∀ {v1 : Int32} {v2 : Int32} {h : Hp} {r : Int32 × Hp}, c_259 v1 v2 h = some r → CI dg 259 [.ref 84, .int v1, .int v2] h (fun x g => x = r.1 ∧ g = r.2)) (hq : RtX X (some (.int r.1)) r.2) {h : Hp} {v1 : Int32} {v2 : Int32} (e : R_259_21 c_259 v1 v2 h = some r) : G X d 259 21 [some (.ref 84), some (.int v1), some (.int v2), none, none, none] [] h := by
  unfold R_259_21 at e
  obtain ⟨x, h2, e1, e2⟩ := bndV_s e
  refine k_259_21 (by omega) (t_229 e1) ?_
  rintro _ rfl
  exact r_259_29 hd hgd hc_259 hq e2
noncomputable def R_259_17 (c_259 : Int32 → Int32 → Hp → Option (Int32 × Hp)) (v1 : Int32) (v2 : Int32) (h : Hp) : Option (Int32 × Hp) := bndV (S_229 h) (R_259_29 c_259 v1 v2 ((-1)))
theorem r_259_17 {X : GX} {d : Nat} {r : Int32 × Hp} {c_259 : Int32 → Int32 → Hp → Option (Int32 × Hp)} {dg : Nat} (hd : 8 ≤ d) (hgd : dg < d) (hc_259 : ∀ {v1 : Int32} {v2 : Int32} {h : Hp} {r : Int32 × Hp}, c_259 v1 v2 h = some r → CI dg 259 [.ref 84, .int v1, .int v2] h (fun x g => x = r.1 ∧ g = r.2)) (hq : RtX X (some (.int r.1)) r.2) {h : Hp} {v1 : Int32} {v2 : Int32} (e : R_259_17 c_259 v1 v2 h = some r) : G X d 259 17 [some (.ref 84), some (.int v1), some (.int v2), none, none, none] [] h := by
  unfold R_259_17 at e
  obtain ⟨x, h2, e1, e2⟩ := bndV_s e
  refine k_259_17 (by omega) (t_229 e1) ?_
  rintro _ rfl
  exact r_259_29 hd hgd hc_259 hq e2
noncomputable def R_259_13 (c_259 : Int32 → Int32 → Hp → Option (Int32 × Hp)) (v1 : Int32) (v2 : Int32) (h : Hp) : Option (Int32 × Hp) := if v2 = 0 then R_259_21 c_259 v1 v2 h else R_259_17 c_259 v1 v2 h
theorem r_259_13 {X : GX} {d : Nat} {r : Int32 × Hp} {c_259 : Int32 → Int32 → Hp → Option (Int32 × Hp)} {dg : Nat} (hd : 8 ≤ d) (hgd : dg < d) (hc_259 : ∀ {v1 : Int32} {v2 : Int32} {h : Hp} {r : Int32 × Hp}, c_259 v1 v2 h = some r → CI dg 259 [.ref 84, .int v1, .int v2] h (fun x g => x = r.1 ∧ g = r.2)) (hq : RtX X (some (.int r.1)) r.2) {h : Hp} {v1 : Int32} {v2 : Int32} (e : R_259_13 c_259 v1 v2 h = some r) : G X d 259 13 [some (.ref 84), some (.int v1), some (.int v2), none, none, none] [] h := by
  unfold R_259_13 at e
  refine k_259_13 (fun c => ?_) (fun c => ?_)
  · rw [if_pos c] at e; exact r_259_21 hd hgd hc_259 hq e
  · rw [if_neg c] at e; exact r_259_17 hd hgd hc_259 hq e
noncomputable def R_259_8 (c_259 : Int32 → Int32 → Hp → Option (Int32 × Hp)) (v1 : Int32) (v2 : Int32) (s0 : Int32) (h : Hp) : Option (Int32 × Hp) := if s0 = 0 then R_259_13 c_259 v1 v2 h else R_259_11 c_259 h
theorem r_259_8 {X : GX} {d : Nat} {r : Int32 × Hp} {c_259 : Int32 → Int32 → Hp → Option (Int32 × Hp)} {dg : Nat} (hd : 8 ≤ d) (hgd : dg < d) (hc_259 : ∀ {v1 : Int32} {v2 : Int32} {h : Hp} {r : Int32 × Hp}, c_259 v1 v2 h = some r → CI dg 259 [.ref 84, .int v1, .int v2] h (fun x g => x = r.1 ∧ g = r.2)) (hq : RtX X (some (.int r.1)) r.2) {h : Hp} {v1 : Int32} {v2 : Int32} {s0 : Int32} (e : R_259_8 c_259 v1 v2 s0 h = some r) : G X d 259 8 [some (.ref 84), some (.int v1), some (.int v2), none, none, none] [.int s0] h := by
  unfold R_259_8 at e
  refine k_259_8 (fun c => ?_) (fun c => ?_)
  · rw [if_pos c] at e; exact r_259_13 hd hgd hc_259 hq e
  · rw [if_neg c] at e; exact r_259_11 hd hgd hc_259 hq e
noncomputable def R_259_4 (c_259 : Int32 → Int32 → Hp → Option (Int32 × Hp)) (v1 : Int32) (v2 : Int32) (h : Hp) : Option (Int32 × Hp) := bndI (S_205 h) (R_259_8 c_259 v1 v2)
theorem r_259_4 {X : GX} {d : Nat} {r : Int32 × Hp} {c_259 : Int32 → Int32 → Hp → Option (Int32 × Hp)} {dg : Nat} (hd : 8 ≤ d) (hgd : dg < d) (hc_259 : ∀ {v1 : Int32} {v2 : Int32} {h : Hp} {r : Int32 × Hp}, c_259 v1 v2 h = some r → CI dg 259 [.ref 84, .int v1, .int v2] h (fun x g => x = r.1 ∧ g = r.2)) (hq : RtX X (some (.int r.1)) r.2) {h : Hp} {v1 : Int32} {v2 : Int32} (e : R_259_4 c_259 v1 v2 h = some r) : G X d 259 4 [some (.ref 84), some (.int v1), some (.int v2), none, none, none] [] h := by
  unfold R_259_4 at e
  obtain ⟨x, h2, e1, e2⟩ := bndI_s e
  refine k_259_4 (by omega) (t_205 e1) ?_
  rintro _ _ ⟨rfl, rfl⟩
  exact r_259_8 hd hgd hc_259 hq e2
noncomputable def R_259_0 (c_259 : Int32 → Int32 → Hp → Option (Int32 × Hp)) (v1 : Int32) (v2 : Int32) (h : Hp) : Option (Int32 × Hp) := if v1 = 0 then R_259_11 c_259 h else R_259_4 c_259 v1 v2 h
theorem r_259_0 {X : GX} {d : Nat} {r : Int32 × Hp} {c_259 : Int32 → Int32 → Hp → Option (Int32 × Hp)} {dg : Nat} (hd : 8 ≤ d) (hgd : dg < d) (hc_259 : ∀ {v1 : Int32} {v2 : Int32} {h : Hp} {r : Int32 × Hp}, c_259 v1 v2 h = some r → CI dg 259 [.ref 84, .int v1, .int v2] h (fun x g => x = r.1 ∧ g = r.2)) (hq : RtX X (some (.int r.1)) r.2) {h : Hp} {v1 : Int32} {v2 : Int32} (e : R_259_0 c_259 v1 v2 h = some r) : G X d 259 0 [some (.ref 84), some (.int v1), some (.int v2), none, none, none] [] h := by
  unfold R_259_0 at e
  refine k_259_0 (fun c => ?_) (fun c => ?_)
  · rw [if_pos c] at e; exact r_259_11 hd hgd hc_259 hq e
  · rw [if_neg c] at e; exact r_259_4 hd hgd hc_259 hq e
noncomputable def SG_259 : Nat → (Int32 → Int32 → Hp → Option (Int32 × Hp))
  | 0 => (fun _ _ _ => none)
  | n + 1 => (fun v1 v2 h => R_259_0 (SG_259 n) v1 v2 h)
set_option maxRecDepth 100000 in
theorem tg_259 : ∀ n, (∀ {v1 : Int32} {v2 : Int32} {h : Hp} {r : Int32 × Hp}, (SG_259 n) v1 v2 h = some r → CI (8 + n) 259 [.ref 84, .int v1, .int v2] h (fun x g => x = r.1 ∧ g = r.2)) := by
  intro n
  induction n with
  | zero => exact fun e => by cases e
  | succ n ih =>
    have i259 := @ih
    intro v1 v2 h r e
    · refine C.of mo_259 (Nat.le_of_ble_eq_true rfl) (fun X hq => ?_)
      exact r_259_0 (by omega) (show 8 + n < 8 + (n + 1) by omega) (fun e => i259 e) (hq _ _ ⟨_, rfl, rfl, rfl⟩) e
noncomputable def S_259 (v1 : Int32) (v2 : Int32) (h : Hp) : Option (Int32 × Hp) := (SG_259 60) v1 v2 h
theorem t_259 {v1 : Int32} {v2 : Int32} {h : Hp} {r : Int32 × Hp} (e : S_259 v1 v2 h = some r) : CI 68 259 [.ref 84, .int v1, .int v2] h (fun x g => x = r.1 ∧ g = r.2) := (tg_259 60) e
/-! 258 PlayedTruthModel.game(I)I -/
noncomputable def R_258_21 (h : Hp) : Option (Int32 × Hp) := some (((-1)), h)
theorem r_258_21 {X : GX} {d : Nat} {r : Int32 × Hp} (hd : 69 ≤ d) (hq : RtX X (some (.int r.1)) r.2) {h : Hp} (e : R_258_21 h = some r) : G X d 258 21 [none, none] [] h := by
  unfold R_258_21 at e
  rw [← Option.some.inj e] at hq
  exact k_258_21 hq
noncomputable def R_258_18 (s0 : Int32) (h : Hp) : Option (Int32 × Hp) := some (s0, h)
theorem r_258_18 {X : GX} {d : Nat} {r : Int32 × Hp} (hd : 69 ≤ d) (hq : RtX X (some (.int r.1)) r.2) {h : Hp} {s0 : Int32} (e : R_258_18 s0 h = some r) : G X d 258 18 [none, none] [.int s0] h := by
  unfold R_258_18 at e
  rw [← Option.some.inj e] at hq
  exact k_258_18 hq
noncomputable def R_258_12 (v1 : Int32) (h : Hp) : Option (Int32 × Hp) := bndI (S_259 v1 1 h) (R_258_18)
theorem r_258_12 {X : GX} {d : Nat} {r : Int32 × Hp} (hd : 69 ≤ d) (hq : RtX X (some (.int r.1)) r.2) {h : Hp} {v1 : Int32} (e : R_258_12 v1 h = some r) : G X d 258 12 [some (.ref 84), some (.int v1)] [] h := by
  unfold R_258_12 at e
  obtain ⟨x, h2, e1, e2⟩ := bndI_s e
  refine k_258_12 (by omega) (t_259 e1) ?_
  rintro _ _ ⟨rfl, rfl⟩
  exact r_258_18 hd hq e2
noncomputable def R_258_9 (v1 : Int32) (s0 : Int32) (h : Hp) : Option (Int32 × Hp) := if s0 = 0 then R_258_21 h else R_258_12 v1 h
theorem r_258_9 {X : GX} {d : Nat} {r : Int32 × Hp} (hd : 69 ≤ d) (hq : RtX X (some (.int r.1)) r.2) {h : Hp} {v1 : Int32} {s0 : Int32} (e : R_258_9 v1 s0 h = some r) : G X d 258 9 [some (.ref 84), some (.int v1)] [.int s0] h := by
  unfold R_258_9 at e
  refine k_258_9 (fun c => ?_) (fun c => ?_)
  · rw [if_pos c] at e; exact r_258_21 hd hq e
  · rw [if_neg c] at e; exact r_258_12 hd hq e
noncomputable def R_258_0 (v1 : Int32) (h : Hp) : Option (Int32 × Hp) := bndI (S_177 (Int32.toInt64 v1) 1 4 h) (R_258_9 v1)
theorem r_258_0 {X : GX} {d : Nat} {r : Int32 × Hp} (hd : 69 ≤ d) (hq : RtX X (some (.int r.1)) r.2) {h : Hp} {v1 : Int32} (e : R_258_0 v1 h = some r) : G X d 258 0 [some (.ref 84), some (.int v1)] [] h := by
  unfold R_258_0 at e
  obtain ⟨x, h2, e1, e2⟩ := bndI_s e
  refine k_258_0 (by omega) (t_177 e1) ?_
  rintro _ _ ⟨rfl, rfl⟩
  exact r_258_9 hd hq e2
noncomputable def S_258 (v1 : Int32) (h : Hp) : Option (Int32 × Hp) := R_258_0 v1 h
set_option maxRecDepth 100000 in
theorem t_258 {v1 : Int32} {h : Hp} {r : Int32 × Hp} (e : S_258 v1 h = some r) : CI 69 258 [.ref 84, .int v1] h (fun x g => x = r.1 ∧ g = r.2) := by
  refine C.of mo_258 (Nat.le_of_ble_eq_true rfl) (fun X hq => ?_)
  exact r_258_0 (Nat.le_refl _) (hq _ _ ⟨_, rfl, rfl, rfl⟩) e
/-! 260 PlayedTruthModel.play(I)I -/
noncomputable def R_260_95 (v3 : Int32) (h : Hp) : Option (Int32 × Hp) := some (v3, h)
theorem r_260_95 {X : GX} {d : Nat} {r : Int32 × Hp} (hd : 69 ≤ d) (hq : RtX X (some (.int r.1)) r.2) {h : Hp} {v3 : Int32} (e : R_260_95 v3 h = some r) : G X d 260 95 [none, none, none, some (.int v3), none, none] [] h := by
  unfold R_260_95 at e
  rw [← Option.some.inj e] at hq
  exact k_260_95 hq
noncomputable def R_260_91 (v3 : Int32) (h : Hp) : Option (Int32 × Hp) := bndV (S_231 h) (R_260_95 v3)
theorem r_260_91 {X : GX} {d : Nat} {r : Int32 × Hp} (hd : 69 ≤ d) (hq : RtX X (some (.int r.1)) r.2) {h : Hp} {v3 : Int32} (e : R_260_91 v3 h = some r) : G X d 260 91 [some (.ref 84), none, none, some (.int v3), none, none] [] h := by
  unfold R_260_91 at e
  obtain ⟨x, h2, e1, e2⟩ := bndV_s e
  refine k_260_91 (by omega) (t_231 e1) ?_
  rintro _ rfl
  exact r_260_95 hd hq e2
noncomputable def R_260_83 (rec_46 : Int32 → Int32 → Int32 → Int32 → Hp → Option (Int32 × Hp)) (v1 : Int32) (v2 : Int32) (v3 : Int32) (v4 : Int32) (h : Hp) : Option (Int32 × Hp) := rec_46 v1 v2 v3 (v4 + (-1)) h
theorem r_260_83 {X : GX} {d : Nat} {r : Int32 × Hp} (hd : 69 ≤ d) (hq : RtX X (some (.int r.1)) r.2) {rec_46 : Int32 → Int32 → Int32 → Int32 → Hp → Option (Int32 × Hp)} (hr_46 : ∀ {v1 : Int32} {v2 : Int32} {v3 : Int32} {v4 : Int32} {h : Hp}, rec_46 v1 v2 v3 v4 h = some r → G X d 260 46 [some (.ref 84), some (.int v1), some (.int v2), some (.int v3), some (.int v4), none] [] h) {h : Hp} {v1 : Int32} {v2 : Int32} {v3 : Int32} {v4 : Int32} (e : R_260_83 rec_46 v1 v2 v3 v4 h = some r) : G X d 260 83 [some (.ref 84), some (.int v1), some (.int v2), some (.int v3), some (.int v4), none] [] h := by
  unfold R_260_83 at e
  exact k_260_83 (hr_46 e)
noncomputable def R_260_78 (rec_46 : Int32 → Int32 → Int32 → Int32 → Hp → Option (Int32 × Hp)) (v1 : Int32) (v2 : Int32) (v4 : Int32) (h : Hp) : Option (Int32 × Hp) := rec_46 v1 v2 v4 (v4 + (-1)) h
theorem r_260_78 {X : GX} {d : Nat} {r : Int32 × Hp} (hd : 69 ≤ d) (hq : RtX X (some (.int r.1)) r.2) {rec_46 : Int32 → Int32 → Int32 → Int32 → Hp → Option (Int32 × Hp)} (hr_46 : ∀ {v1 : Int32} {v2 : Int32} {v3 : Int32} {v4 : Int32} {h : Hp}, rec_46 v1 v2 v3 v4 h = some r → G X d 260 46 [some (.ref 84), some (.int v1), some (.int v2), some (.int v3), some (.int v4), none] [] h) {h : Hp} {v1 : Int32} {v2 : Int32} {v4 : Int32} (e : R_260_78 rec_46 v1 v2 v4 h = some r) : G X d 260 78 [some (.ref 84), some (.int v1), some (.int v2), none, some (.int v4), none] [] h := by
  unfold R_260_78 at e
  exact k_260_78 (hr_46 e)
noncomputable def R_260_72 (rec_46 : Int32 → Int32 → Int32 → Int32 → Hp → Option (Int32 × Hp)) (v1 : Int32) (v2 : Int32) (v3 : Int32) (v4 : Int32) (v5 : Int32) (h : Hp) : Option (Int32 × Hp) := if v5 = v2 then R_260_78 rec_46 v1 v2 v4 h else R_260_83 rec_46 v1 v2 v3 v4 h
theorem r_260_72 {X : GX} {d : Nat} {r : Int32 × Hp} (hd : 69 ≤ d) (hq : RtX X (some (.int r.1)) r.2) {rec_46 : Int32 → Int32 → Int32 → Int32 → Hp → Option (Int32 × Hp)} (hr_46 : ∀ {v1 : Int32} {v2 : Int32} {v3 : Int32} {v4 : Int32} {h : Hp}, rec_46 v1 v2 v3 v4 h = some r → G X d 260 46 [some (.ref 84), some (.int v1), some (.int v2), some (.int v3), some (.int v4), none] [] h) {h : Hp} {v1 : Int32} {v2 : Int32} {v3 : Int32} {v4 : Int32} {v5 : Int32} (e : R_260_72 rec_46 v1 v2 v3 v4 v5 h = some r) : G X d 260 72 [some (.ref 84), some (.int v1), some (.int v2), some (.int v3), some (.int v4), some (.int v5)] [] h := by
  unfold R_260_72 at e
  refine k_260_72 (fun c => ?_) (fun c => ?_)
  · rw [if_neg c] at e; exact r_260_83 hd hq hr_46 e
  · rw [if_pos c] at e; exact r_260_78 hd hq hr_46 e
noncomputable def R_260_65 (rec_46 : Int32 → Int32 → Int32 → Int32 → Hp → Option (Int32 × Hp)) (v1 : Int32) (v2 : Int32) (v3 : Int32) (v4 : Int32) (s1 : Int32) (s0 : Int32) (h : Hp) : Option (Int32 × Hp) := bndV (S_232 h) (R_260_72 rec_46 v1 v2 v3 v4 (s1 + s0))
theorem r_260_65 {X : GX} {d : Nat} {r : Int32 × Hp} (hd : 69 ≤ d) (hq : RtX X (some (.int r.1)) r.2) {rec_46 : Int32 → Int32 → Int32 → Int32 → Hp → Option (Int32 × Hp)} (hr_46 : ∀ {v1 : Int32} {v2 : Int32} {v3 : Int32} {v4 : Int32} {h : Hp}, rec_46 v1 v2 v3 v4 h = some r → G X d 260 46 [some (.ref 84), some (.int v1), some (.int v2), some (.int v3), some (.int v4), none] [] h) {h : Hp} {v1 : Int32} {v2 : Int32} {v3 : Int32} {v4 : Int32} {s1 : Int32} {s0 : Int32} (e : R_260_65 rec_46 v1 v2 v3 v4 s1 s0 h = some r) : G X d 260 65 [some (.ref 84), some (.int v1), some (.int v2), some (.int v3), some (.int v4), none] [.int s0, .int s1] h := by
  unfold R_260_65 at e
  obtain ⟨x, h2, e1, e2⟩ := bndV_s e
  refine k_260_65 (by omega) (t_232 e1) ?_
  rintro _ rfl
  exact r_260_72 hd hq hr_46 e2
noncomputable def R_260_57 (rec_46 : Int32 → Int32 → Int32 → Int32 → Hp → Option (Int32 × Hp)) (v1 : Int32) (v2 : Int32) (v3 : Int32) (v4 : Int32) (s0 : Int32) (h : Hp) : Option (Int32 × Hp) := bndI (S_259 (v1 - 1) 0 h) (R_260_65 rec_46 v1 v2 v3 v4 s0)
theorem r_260_57 {X : GX} {d : Nat} {r : Int32 × Hp} (hd : 69 ≤ d) (hq : RtX X (some (.int r.1)) r.2) {rec_46 : Int32 → Int32 → Int32 → Int32 → Hp → Option (Int32 × Hp)} (hr_46 : ∀ {v1 : Int32} {v2 : Int32} {v3 : Int32} {v4 : Int32} {h : Hp}, rec_46 v1 v2 v3 v4 h = some r → G X d 260 46 [some (.ref 84), some (.int v1), some (.int v2), some (.int v3), some (.int v4), none] [] h) {h : Hp} {v1 : Int32} {v2 : Int32} {v3 : Int32} {v4 : Int32} {s0 : Int32} (e : R_260_57 rec_46 v1 v2 v3 v4 s0 h = some r) : G X d 260 57 [some (.ref 84), some (.int v1), some (.int v2), some (.int v3), some (.int v4), none] [.int s0] h := by
  unfold R_260_57 at e
  obtain ⟨x, h2, e1, e2⟩ := bndI_s e
  refine k_260_57 (by omega) (t_259 e1) ?_
  rintro _ _ ⟨rfl, rfl⟩
  exact r_260_65 hd hq hr_46 e2
noncomputable def R_260_51 (rec_46 : Int32 → Int32 → Int32 → Int32 → Hp → Option (Int32 × Hp)) (v1 : Int32) (v2 : Int32) (v3 : Int32) (v4 : Int32) (h : Hp) : Option (Int32 × Hp) := bndI (S_226 v4 h) (R_260_57 rec_46 v1 v2 v3 v4)
theorem r_260_51 {X : GX} {d : Nat} {r : Int32 × Hp} (hd : 69 ≤ d) (hq : RtX X (some (.int r.1)) r.2) {rec_46 : Int32 → Int32 → Int32 → Int32 → Hp → Option (Int32 × Hp)} (hr_46 : ∀ {v1 : Int32} {v2 : Int32} {v3 : Int32} {v4 : Int32} {h : Hp}, rec_46 v1 v2 v3 v4 h = some r → G X d 260 46 [some (.ref 84), some (.int v1), some (.int v2), some (.int v3), some (.int v4), none] [] h) {h : Hp} {v1 : Int32} {v2 : Int32} {v3 : Int32} {v4 : Int32} (e : R_260_51 rec_46 v1 v2 v3 v4 h = some r) : G X d 260 51 [some (.ref 84), some (.int v1), some (.int v2), some (.int v3), some (.int v4), none] [] h := by
  unfold R_260_51 at e
  obtain ⟨x, h2, e1, e2⟩ := bndI_s e
  refine k_260_51 (by omega) (t_226 e1) ?_
  rintro _ _ ⟨rfl, rfl⟩
  exact r_260_57 hd hq hr_46 e2
noncomputable def R_260_46 (rec_46 : Int32 → Int32 → Int32 → Int32 → Hp → Option (Int32 × Hp)) (v1 : Int32) (v2 : Int32) (v3 : Int32) (v4 : Int32) (h : Hp) : Option (Int32 × Hp) := if v4 < 0 then R_260_91 v3 h else R_260_51 rec_46 v1 v2 v3 v4 h
theorem r_260_46 {X : GX} {d : Nat} {r : Int32 × Hp} (hd : 69 ≤ d) (hq : RtX X (some (.int r.1)) r.2) {rec_46 : Int32 → Int32 → Int32 → Int32 → Hp → Option (Int32 × Hp)} (hr_46 : ∀ {v1 : Int32} {v2 : Int32} {v3 : Int32} {v4 : Int32} {h : Hp}, rec_46 v1 v2 v3 v4 h = some r → G X d 260 46 [some (.ref 84), some (.int v1), some (.int v2), some (.int v3), some (.int v4), none] [] h) {h : Hp} {v1 : Int32} {v2 : Int32} {v3 : Int32} {v4 : Int32} (e : R_260_46 rec_46 v1 v2 v3 v4 h = some r) : G X d 260 46 [some (.ref 84), some (.int v1), some (.int v2), some (.int v3), some (.int v4), none] [] h := by
  unfold R_260_46 at e
  refine k_260_46 (fun c => ?_) (fun c => ?_)
  · rw [if_pos c] at e; exact r_260_91 hd hq e
  · rw [if_neg c] at e; exact r_260_51 hd hq hr_46 e
noncomputable def H_260_46 : Nat → Int32 → Int32 → Int32 → Int32 → Hp → Option (Int32 × Hp)
  | 0, _, _, _, _, _ => none
  | n + 1, v1, v2, v3, v4, h => R_260_46 (H_260_46 n) v1 v2 v3 v4 h
theorem h_260_46 {X : GX} {d : Nat} {r : Int32 × Hp} (hd : 69 ≤ d) (hq : RtX X (some (.int r.1)) r.2) {n : Nat} {h : Hp} {v1 : Int32} {v2 : Int32} {v3 : Int32} {v4 : Int32} (e : H_260_46 n v1 v2 v3 v4 h = some r) : G X d 260 46 [some (.ref 84), some (.int v1), some (.int v2), some (.int v3), some (.int v4), none] [] h := by
  induction n generalizing v1 v2 v3 v4 h with
  | zero => cases e
  | succ n ih => exact r_260_46 hd hq (fun e => ih e) e
noncomputable def R_260_38 (v1 : Int32) (v2 : Int32) (v3 : Int32) (h : Hp) : Option (Int32 × Hp) := gd (IA 85 0) (H_260_46 fuL v1 v2 v3 (h 85 (Int32.toNatClampNeg 0)) h)
theorem r_260_38 {X : GX} {d : Nat} {r : Int32 × Hp} (hd : 69 ≤ d) (hq : RtX X (some (.int r.1)) r.2) {h : Hp} {v1 : Int32} {v2 : Int32} {v3 : Int32} (e : R_260_38 v1 v2 v3 h = some r) : G X d 260 38 [some (.ref 84), some (.int v1), some (.int v2), some (.int v3), none, none] [] h := by
  unfold R_260_38 at e
  have g := gd_s e; clear e; obtain ⟨b0, e⟩ := g
  exact k_260_38 b0 (h_260_46 hd hq e)
noncomputable def R_260_30 (v1 : Int32) (s0 : Int32) (h : Hp) : Option (Int32 × Hp) := bndV (S_229 h) (R_260_38 v1 s0 ((-3)))
theorem r_260_30 {X : GX} {d : Nat} {r : Int32 × Hp} (hd : 69 ≤ d) (hq : RtX X (some (.int r.1)) r.2) {h : Hp} {v1 : Int32} {s0 : Int32} (e : R_260_30 v1 s0 h = some r) : G X d 260 30 [some (.ref 84), some (.int v1), none, none, none, none] [.int s0] h := by
  unfold R_260_30 at e
  obtain ⟨x, h2, e1, e2⟩ := bndV_s e
  refine k_260_30 (by omega) (t_229 e1) ?_
  rintro _ rfl
  exact r_260_38 hd hq e2
noncomputable def R_260_24 (v1 : Int32) (h : Hp) : Option (Int32 × Hp) := bndI (S_259 v1 1 h) (R_260_30 v1)
theorem r_260_24 {X : GX} {d : Nat} {r : Int32 × Hp} (hd : 69 ≤ d) (hq : RtX X (some (.int r.1)) r.2) {h : Hp} {v1 : Int32} (e : R_260_24 v1 h = some r) : G X d 260 24 [some (.ref 84), some (.int v1), none, none, none, none] [] h := by
  unfold R_260_24 at e
  obtain ⟨x, h2, e1, e2⟩ := bndI_s e
  refine k_260_24 (by omega) (t_259 e1) ?_
  rintro _ _ ⟨rfl, rfl⟩
  exact r_260_30 hd hq e2
noncomputable def R_260_21 (h : Hp) : Option (Int32 × Hp) := some (((-3)), h)
theorem r_260_21 {X : GX} {d : Nat} {r : Int32 × Hp} (hd : 69 ≤ d) (hq : RtX X (some (.int r.1)) r.2) {h : Hp} (e : R_260_21 h = some r) : G X d 260 21 [none, none, none, none, none, none] [] h := by
  unfold R_260_21 at e
  rw [← Option.some.inj e] at hq
  exact k_260_21 hq
noncomputable def R_260_18 (v1 : Int32) (s0 : Int32) (h : Hp) : Option (Int32 × Hp) := if s0 = 0 then R_260_24 v1 h else R_260_21 h
theorem r_260_18 {X : GX} {d : Nat} {r : Int32 × Hp} (hd : 69 ≤ d) (hq : RtX X (some (.int r.1)) r.2) {h : Hp} {v1 : Int32} {s0 : Int32} (e : R_260_18 v1 s0 h = some r) : G X d 260 18 [some (.ref 84), some (.int v1), none, none, none, none] [.int s0] h := by
  unfold R_260_18 at e
  refine k_260_18 (fun c => ?_) (fun c => ?_)
  · rw [if_pos c] at e; exact r_260_24 hd hq e
  · rw [if_neg c] at e; exact r_260_21 hd hq e
noncomputable def R_260_14 (v1 : Int32) (h : Hp) : Option (Int32 × Hp) := bndI (S_205 h) (R_260_18 v1)
theorem r_260_14 {X : GX} {d : Nat} {r : Int32 × Hp} (hd : 69 ≤ d) (hq : RtX X (some (.int r.1)) r.2) {h : Hp} {v1 : Int32} (e : R_260_14 v1 h = some r) : G X d 260 14 [some (.ref 84), some (.int v1), none, none, none, none] [] h := by
  unfold R_260_14 at e
  obtain ⟨x, h2, e1, e2⟩ := bndI_s e
  refine k_260_14 (by omega) (t_205 e1) ?_
  rintro _ _ ⟨rfl, rfl⟩
  exact r_260_18 hd hq e2
noncomputable def R_260_12 (h : Hp) : Option (Int32 × Hp) := some (((-1)), h)
theorem r_260_12 {X : GX} {d : Nat} {r : Int32 × Hp} (hd : 69 ≤ d) (hq : RtX X (some (.int r.1)) r.2) {h : Hp} (e : R_260_12 h = some r) : G X d 260 12 [none, none, none, none, none, none] [] h := by
  unfold R_260_12 at e
  rw [← Option.some.inj e] at hq
  exact k_260_12 hq
noncomputable def R_260_9 (v1 : Int32) (s0 : Int32) (h : Hp) : Option (Int32 × Hp) := if s0 = 0 then R_260_12 h else R_260_14 v1 h
theorem r_260_9 {X : GX} {d : Nat} {r : Int32 × Hp} (hd : 69 ≤ d) (hq : RtX X (some (.int r.1)) r.2) {h : Hp} {v1 : Int32} {s0 : Int32} (e : R_260_9 v1 s0 h = some r) : G X d 260 9 [some (.ref 84), some (.int v1), none, none, none, none] [.int s0] h := by
  unfold R_260_9 at e
  refine k_260_9 (fun c => ?_) (fun c => ?_)
  · rw [if_neg c] at e; exact r_260_14 hd hq e
  · rw [if_pos c] at e; exact r_260_12 hd hq e
noncomputable def R_260_0 (v1 : Int32) (h : Hp) : Option (Int32 × Hp) := bndI (S_177 (Int32.toInt64 v1) 1 4 h) (R_260_9 v1)
theorem r_260_0 {X : GX} {d : Nat} {r : Int32 × Hp} (hd : 69 ≤ d) (hq : RtX X (some (.int r.1)) r.2) {h : Hp} {v1 : Int32} (e : R_260_0 v1 h = some r) : G X d 260 0 [some (.ref 84), some (.int v1), none, none, none, none] [] h := by
  unfold R_260_0 at e
  obtain ⟨x, h2, e1, e2⟩ := bndI_s e
  refine k_260_0 (by omega) (t_177 e1) ?_
  rintro _ _ ⟨rfl, rfl⟩
  exact r_260_9 hd hq e2
noncomputable def S_260 (v1 : Int32) (h : Hp) : Option (Int32 × Hp) := R_260_0 v1 h
set_option maxRecDepth 100000 in
theorem t_260 {v1 : Int32} {h : Hp} {r : Int32 × Hp} (e : S_260 v1 h = some r) : CI 69 260 [.ref 84, .int v1] h (fun x g => x = r.1 ∧ g = r.2) := by
  refine C.of mo_260 (Nat.le_of_ble_eq_true rfl) (fun X hq => ?_)
  exact r_260_0 (Nat.le_refl _) (hq _ _ ⟨_, rfl, rfl, rfl⟩) e
/-! 261 PlayedTruthModel.report(IIII)I -/
noncomputable def R_261_62 (h : Hp) : Option (Int32 × Hp) := some (((-1)), h)
theorem r_261_62 {X : GX} {d : Nat} {r : Int32 × Hp} (hd : 2 ≤ d) (hq : RtX X (some (.int r.1)) r.2) {h : Hp} (e : R_261_62 h = some r) : G X d 261 62 [none, none, none, none, none, none, none] [] h := by
  unfold R_261_62 at e
  rw [← Option.some.inj e] at hq
  exact k_261_62 hq
noncomputable def R_261_79 (v1 : Int32) (v2 : Int32) (v3 : Int32) (v4 : Int32) (h : Hp) : Option (Int32 × Hp) := gd (IA 85 6 ∧ IA 85 (65 + (4 * (h 85 (Int32.toNatClampNeg 6)))) ∧ IA 85 ((65 + (4 * (h 85 (Int32.toNatClampNeg 6)))) + 1) ∧ IA 85 ((65 + (4 * (h 85 (Int32.toNatClampNeg 6)))) + 2) ∧ IA 85 ((65 + (4 * (h 85 (Int32.toNatClampNeg 6)))) + 3)) (some ((h 85 (Int32.toNatClampNeg 6)), (wr (wr (wr (wr (wr h 85 (Int32.toNatClampNeg (65 + (4 * (h 85 (Int32.toNatClampNeg 6))))) v1) 85 (Int32.toNatClampNeg ((65 + (4 * (h 85 (Int32.toNatClampNeg 6)))) + 1)) v2) 85 (Int32.toNatClampNeg ((65 + (4 * (h 85 (Int32.toNatClampNeg 6)))) + 2)) v3) 85 (Int32.toNatClampNeg ((65 + (4 * (h 85 (Int32.toNatClampNeg 6)))) + 3)) v4) 85 (Int32.toNatClampNeg 6) (((wr (wr (wr (wr h 85 (Int32.toNatClampNeg (65 + (4 * (h 85 (Int32.toNatClampNeg 6))))) v1) 85 (Int32.toNatClampNeg ((65 + (4 * (h 85 (Int32.toNatClampNeg 6)))) + 1)) v2) 85 (Int32.toNatClampNeg ((65 + (4 * (h 85 (Int32.toNatClampNeg 6)))) + 2)) v3) 85 (Int32.toNatClampNeg ((65 + (4 * (h 85 (Int32.toNatClampNeg 6)))) + 3)) v4) 85 (Int32.toNatClampNeg 6)) + 1))))
set_option maxRecDepth 100000 in
theorem r_261_79 {X : GX} {d : Nat} {r : Int32 × Hp} (hd : 2 ≤ d) (hq : RtX X (some (.int r.1)) r.2) {h : Hp} {v1 : Int32} {v2 : Int32} {v3 : Int32} {v4 : Int32} (e : R_261_79 v1 v2 v3 v4 h = some r) : G X d 261 79 [some (.ref 84), some (.int v1), some (.int v2), some (.int v3), some (.int v4), none, none] [] h := by
  unfold R_261_79 at e
  have g := gd_s e; clear e; obtain ⟨⟨b0, b1, b2, b3, b4⟩, e⟩ := g
  rw [← Option.some.inj e] at hq
  exact k_261_79 b0 b1 b2 b3 b4 hq
noncomputable def R_261_76 (h : Hp) : Option (Int32 × Hp) := some (((-2)), h)
theorem r_261_76 {X : GX} {d : Nat} {r : Int32 × Hp} (hd : 2 ≤ d) (hq : RtX X (some (.int r.1)) r.2) {h : Hp} (e : R_261_76 h = some r) : G X d 261 76 [none, none, none, none, none, none, none] [] h := by
  unfold R_261_76 at e
  rw [← Option.some.inj e] at hq
  exact k_261_76 hq
noncomputable def R_261_64 (v1 : Int32) (v2 : Int32) (v3 : Int32) (v4 : Int32) (h : Hp) : Option (Int32 × Hp) := gd (IA 85 6) (if (h 85 (Int32.toNatClampNeg 6)) = 6 then R_261_76 h else R_261_79 v1 v2 v3 v4 h)
theorem r_261_64 {X : GX} {d : Nat} {r : Int32 × Hp} (hd : 2 ≤ d) (hq : RtX X (some (.int r.1)) r.2) {h : Hp} {v1 : Int32} {v2 : Int32} {v3 : Int32} {v4 : Int32} (e : R_261_64 v1 v2 v3 v4 h = some r) : G X d 261 64 [some (.ref 84), some (.int v1), some (.int v2), some (.int v3), some (.int v4), none, none] [] h := by
  unfold R_261_64 at e
  have g := gd_s e; clear e; obtain ⟨b0, e⟩ := g
  refine k_261_64 b0 (fun c => ?_) (fun c => ?_)
  · rw [if_neg c] at e; exact r_261_79 hd hq e
  · rw [if_pos c] at e; exact r_261_76 hd hq e
noncomputable def R_261_59 (v1 : Int32) (v2 : Int32) (v3 : Int32) (v4 : Int32) (s0 : Int32) (h : Hp) : Option (Int32 × Hp) := if s0 = 0 then R_261_62 h else R_261_64 v1 v2 v3 v4 h
theorem r_261_59 {X : GX} {d : Nat} {r : Int32 × Hp} (hd : 2 ≤ d) (hq : RtX X (some (.int r.1)) r.2) {h : Hp} {v1 : Int32} {v2 : Int32} {v3 : Int32} {v4 : Int32} {s0 : Int32} (e : R_261_59 v1 v2 v3 v4 s0 h = some r) : G X d 261 59 [some (.ref 84), some (.int v1), some (.int v2), some (.int v3), some (.int v4), none, none] [.int s0] h := by
  unfold R_261_59 at e
  refine k_261_59 (fun c => ?_) (fun c => ?_)
  · rw [if_neg c] at e; exact r_261_64 hd hq e
  · rw [if_pos c] at e; exact r_261_62 hd hq e
noncomputable def R_261_48 (v1 : Int32) (v2 : Int32) (v3 : Int32) (v4 : Int32) (v5 : Int32) (h : Hp) : Option (Int32 × Hp) := bndI (S_177 (Int32.toInt64 v4) (Int32.toInt64 v3) (Int32.toInt64 v5) h) (R_261_59 v1 v2 v3 v4)
theorem r_261_48 {X : GX} {d : Nat} {r : Int32 × Hp} (hd : 2 ≤ d) (hq : RtX X (some (.int r.1)) r.2) {h : Hp} {v1 : Int32} {v2 : Int32} {v3 : Int32} {v4 : Int32} {v5 : Int32} (e : R_261_48 v1 v2 v3 v4 v5 h = some r) : G X d 261 48 [some (.ref 84), some (.int v1), some (.int v2), some (.int v3), some (.int v4), some (.int v5), none] [] h := by
  unfold R_261_48 at e
  obtain ⟨x, h2, e1, e2⟩ := bndI_s e
  refine k_261_48 (by omega) (t_177 e1) ?_
  rintro _ _ ⟨rfl, rfl⟩
  exact r_261_59 hd hq e2
noncomputable def R_261_45 (v1 : Int32) (v2 : Int32) (v3 : Int32) (v4 : Int32) (v5 : Int32) (s0 : Int32) (h : Hp) : Option (Int32 × Hp) := if s0 = 0 then R_261_62 h else R_261_48 v1 v2 v3 v4 v5 h
theorem r_261_45 {X : GX} {d : Nat} {r : Int32 × Hp} (hd : 2 ≤ d) (hq : RtX X (some (.int r.1)) r.2) {h : Hp} {v1 : Int32} {v2 : Int32} {v3 : Int32} {v4 : Int32} {v5 : Int32} {s0 : Int32} (e : R_261_45 v1 v2 v3 v4 v5 s0 h = some r) : G X d 261 45 [some (.ref 84), some (.int v1), some (.int v2), some (.int v3), some (.int v4), some (.int v5), none] [.int s0] h := by
  unfold R_261_45 at e
  refine k_261_45 (fun c => ?_) (fun c => ?_)
  · rw [if_pos c] at e; exact r_261_62 hd hq e
  · rw [if_neg c] at e; exact r_261_48 hd hq e
noncomputable def R_261_36 (v1 : Int32) (v2 : Int32) (v3 : Int32) (v4 : Int32) (v5 : Int32) (h : Hp) : Option (Int32 × Hp) := bndI (S_177 (Int32.toInt64 v3) 0 (Int32.toInt64 v5) h) (R_261_45 v1 v2 v3 v4 v5)
theorem r_261_36 {X : GX} {d : Nat} {r : Int32 × Hp} (hd : 2 ≤ d) (hq : RtX X (some (.int r.1)) r.2) {h : Hp} {v1 : Int32} {v2 : Int32} {v3 : Int32} {v4 : Int32} {v5 : Int32} (e : R_261_36 v1 v2 v3 v4 v5 h = some r) : G X d 261 36 [some (.ref 84), some (.int v1), some (.int v2), some (.int v3), some (.int v4), some (.int v5), none] [] h := by
  unfold R_261_36 at e
  obtain ⟨x, h2, e1, e2⟩ := bndI_s e
  refine k_261_36 (by omega) (t_177 e1) ?_
  rintro _ _ ⟨rfl, rfl⟩
  exact r_261_45 hd hq e2
noncomputable def R_261_33 (v1 : Int32) (v2 : Int32) (v3 : Int32) (v4 : Int32) (v5 : Int32) (s0 : Int32) (h : Hp) : Option (Int32 × Hp) := if s0 = 0 then R_261_62 h else R_261_36 v1 v2 v3 v4 v5 h
theorem r_261_33 {X : GX} {d : Nat} {r : Int32 × Hp} (hd : 2 ≤ d) (hq : RtX X (some (.int r.1)) r.2) {h : Hp} {v1 : Int32} {v2 : Int32} {v3 : Int32} {v4 : Int32} {v5 : Int32} {s0 : Int32} (e : R_261_33 v1 v2 v3 v4 v5 s0 h = some r) : G X d 261 33 [some (.ref 84), some (.int v1), some (.int v2), some (.int v3), some (.int v4), some (.int v5), none] [.int s0] h := by
  unfold R_261_33 at e
  refine k_261_33 (fun c => ?_) (fun c => ?_)
  · rw [if_pos c] at e; exact r_261_62 hd hq e
  · rw [if_neg c] at e; exact r_261_36 hd hq e
noncomputable def R_261_26 (v1 : Int32) (v2 : Int32) (v3 : Int32) (v4 : Int32) (v5 : Int32) (h : Hp) : Option (Int32 × Hp) := bndI (S_177 (Int32.toInt64 v2) 0 1 h) (R_261_33 v1 v2 v3 v4 v5)
theorem r_261_26 {X : GX} {d : Nat} {r : Int32 × Hp} (hd : 2 ≤ d) (hq : RtX X (some (.int r.1)) r.2) {h : Hp} {v1 : Int32} {v2 : Int32} {v3 : Int32} {v4 : Int32} {v5 : Int32} (e : R_261_26 v1 v2 v3 v4 v5 h = some r) : G X d 261 26 [some (.ref 84), some (.int v1), some (.int v2), some (.int v3), some (.int v4), some (.int v5), none] [] h := by
  unfold R_261_26 at e
  obtain ⟨x, h2, e1, e2⟩ := bndI_s e
  refine k_261_26 (by omega) (t_177 e1) ?_
  rintro _ _ ⟨rfl, rfl⟩
  exact r_261_33 hd hq e2
noncomputable def R_261_23 (v1 : Int32) (v2 : Int32) (v3 : Int32) (v4 : Int32) (v5 : Int32) (s0 : Int32) (h : Hp) : Option (Int32 × Hp) := if s0 = 0 then R_261_62 h else R_261_26 v1 v2 v3 v4 v5 h
theorem r_261_23 {X : GX} {d : Nat} {r : Int32 × Hp} (hd : 2 ≤ d) (hq : RtX X (some (.int r.1)) r.2) {h : Hp} {v1 : Int32} {v2 : Int32} {v3 : Int32} {v4 : Int32} {v5 : Int32} {s0 : Int32} (e : R_261_23 v1 v2 v3 v4 v5 s0 h = some r) : G X d 261 23 [some (.ref 84), some (.int v1), some (.int v2), some (.int v3), some (.int v4), some (.int v5), none] [.int s0] h := by
  unfold R_261_23 at e
  refine k_261_23 (fun c => ?_) (fun c => ?_)
  · rw [if_pos c] at e; exact r_261_62 hd hq e
  · rw [if_neg c] at e; exact r_261_26 hd hq e
noncomputable def R_261_9 (v1 : Int32) (v2 : Int32) (v3 : Int32) (v4 : Int32) (h : Hp) : Option (Int32 × Hp) := bndI (S_177 (Int32.toInt64 v1) 0 15 h) (R_261_23 v1 v2 v3 v4 999)
theorem r_261_9 {X : GX} {d : Nat} {r : Int32 × Hp} (hd : 2 ≤ d) (hq : RtX X (some (.int r.1)) r.2) {h : Hp} {v1 : Int32} {v2 : Int32} {v3 : Int32} {v4 : Int32} (e : R_261_9 v1 v2 v3 v4 h = some r) : G X d 261 9 [some (.ref 84), some (.int v1), some (.int v2), some (.int v3), some (.int v4), none, none] [] h := by
  unfold R_261_9 at e
  obtain ⟨x, h2, e1, e2⟩ := bndI_s e
  refine k_261_9 (by omega) (t_177 e1) ?_
  rintro _ _ ⟨rfl, rfl⟩
  exact r_261_23 hd hq e2
noncomputable def R_261_4 (v1 : Int32) (v2 : Int32) (v3 : Int32) (v4 : Int32) (h : Hp) : Option (Int32 × Hp) := bndI (S_177 (Int32.toInt64 v1) 0 15 h) (R_261_23 v1 v2 v3 v4 99)
theorem r_261_4 {X : GX} {d : Nat} {r : Int32 × Hp} (hd : 2 ≤ d) (hq : RtX X (some (.int r.1)) r.2) {h : Hp} {v1 : Int32} {v2 : Int32} {v3 : Int32} {v4 : Int32} (e : R_261_4 v1 v2 v3 v4 h = some r) : G X d 261 4 [some (.ref 84), some (.int v1), some (.int v2), some (.int v3), some (.int v4), none, none] [] h := by
  unfold R_261_4 at e
  obtain ⟨x, h2, e1, e2⟩ := bndI_s e
  refine k_261_4 (by omega) (t_177 e1) ?_
  rintro _ _ ⟨rfl, rfl⟩
  exact r_261_23 hd hq e2
noncomputable def R_261_0 (v1 : Int32) (v2 : Int32) (v3 : Int32) (v4 : Int32) (h : Hp) : Option (Int32 × Hp) := if v2 = 0 then R_261_4 v1 v2 v3 v4 h else R_261_9 v1 v2 v3 v4 h
theorem r_261_0 {X : GX} {d : Nat} {r : Int32 × Hp} (hd : 2 ≤ d) (hq : RtX X (some (.int r.1)) r.2) {h : Hp} {v1 : Int32} {v2 : Int32} {v3 : Int32} {v4 : Int32} (e : R_261_0 v1 v2 v3 v4 h = some r) : G X d 261 0 [some (.ref 84), some (.int v1), some (.int v2), some (.int v3), some (.int v4), none, none] [] h := by
  unfold R_261_0 at e
  refine k_261_0 (fun c => ?_) (fun c => ?_)
  · rw [if_neg c] at e; exact r_261_9 hd hq e
  · rw [if_pos c] at e; exact r_261_4 hd hq e
noncomputable def S_261 (v1 : Int32) (v2 : Int32) (v3 : Int32) (v4 : Int32) (h : Hp) : Option (Int32 × Hp) := R_261_0 v1 v2 v3 v4 h
set_option maxRecDepth 100000 in
theorem t_261 {v1 : Int32} {v2 : Int32} {v3 : Int32} {v4 : Int32} {h : Hp} {r : Int32 × Hp} (e : S_261 v1 v2 v3 v4 h = some r) : CI 2 261 [.ref 84, .int v1, .int v2, .int v3, .int v4] h (fun x g => x = r.1 ∧ g = r.2) := by
  refine C.of mo_261 (Nat.le_of_ble_eq_true rfl) (fun X hq => ?_)
  exact r_261_0 (Nat.le_refl _) (hq _ _ ⟨_, rfl, rfl, rfl⟩) e
/-! 262 PlayedTruthModel.forget()I -/
noncomputable def R_262_7 (s0 : Int32) (h : Hp) : Option (Int32 × Hp) := some (s0, h)
theorem r_262_7 {X : GX} {d : Nat} {r : Int32 × Hp} (hd : 2 ≤ d) (hq : RtX X (some (.int r.1)) r.2) {h : Hp} {s0 : Int32} (e : R_262_7 s0 h = some r) : G X d 262 7 [none] [.int s0] h := by
  unfold R_262_7 at e
  rw [← Option.some.inj e] at hq
  exact k_262_7 hq
noncomputable def R_262_0 (h : Hp) : Option (Int32 × Hp) := bndI (S_197 6 0 h) (R_262_7)
theorem r_262_0 {X : GX} {d : Nat} {r : Int32 × Hp} (hd : 2 ≤ d) (hq : RtX X (some (.int r.1)) r.2) {h : Hp} (e : R_262_0 h = some r) : G X d 262 0 [some (.ref 84)] [] h := by
  unfold R_262_0 at e
  obtain ⟨x, h2, e1, e2⟩ := bndI_s e
  refine k_262_0 (by omega) (t_197 e1) ?_
  rintro _ _ ⟨rfl, rfl⟩
  exact r_262_7 hd hq e2
noncomputable def S_262 (h : Hp) : Option (Int32 × Hp) := R_262_0 h
set_option maxRecDepth 100000 in
theorem t_262 {h : Hp} {r : Int32 × Hp} (e : S_262 h = some r) : CI 2 262 [.ref 84] h (fun x g => x = r.1 ∧ g = r.2) := by
  refine C.of mo_262 (Nat.le_of_ble_eq_true rfl) (fun X hq => ?_)
  exact r_262_0 (Nat.le_refl _) (hq _ _ ⟨_, rfl, rfl, rfl⟩) e
/-! 265 PlayedTruthModel.fitting(III)I -/
noncomputable def R_265_197 (v4 : Int32) (h : Hp) : Option (Int32 × Hp) := some (v4, h)
theorem r_265_197 {X : GX} {d : Nat} {r : Int32 × Hp} (hd : 3 ≤ d) (hq : RtX X (some (.int r.1)) r.2) {h : Hp} {v4 : Int32} (e : R_265_197 v4 h = some r) : G X d 265 197 [none, none, none, none, some (.int v4), none, none, none, none, none, none] [] h := by
  unfold R_265_197 at e
  rw [← Option.some.inj e] at hq
  exact k_265_197 hq
noncomputable def R_265_188 (rec_12 : Int32 → Int32 → Int32 → Int32 → Int32 → Int32 → Hp → Option (Int32 × Hp)) (v1 : Int32) (v2 : Int32) (v4 : Int32) (v5 : Int32) (v7 : Int32) (s1 : Int32) (s0 : Int32) (h : Hp) : Option (Int32 × Hp) := rec_12 v1 v2 v4 v5 (s1 + s0) (v7 + 1) h
theorem r_265_188 {X : GX} {d : Nat} {r : Int32 × Hp} (hd : 3 ≤ d) (hq : RtX X (some (.int r.1)) r.2) {rec_12 : Int32 → Int32 → Int32 → Int32 → Int32 → Int32 → Hp → Option (Int32 × Hp)} (hr_12 : ∀ {v1 : Int32} {v2 : Int32} {v4 : Int32} {v5 : Int32} {v6 : Int32} {v7 : Int32} {h : Hp}, rec_12 v1 v2 v4 v5 v6 v7 h = some r → G X d 265 12 [some (.ref 84), some (.int v1), some (.int v2), none, some (.int v4), some (.int v5), some (.int v6), some (.int v7), none, none, none] [] h) {h : Hp} {v1 : Int32} {v2 : Int32} {v4 : Int32} {v5 : Int32} {v7 : Int32} {s1 : Int32} {s0 : Int32} (e : R_265_188 rec_12 v1 v2 v4 v5 v7 s1 s0 h = some r) : G X d 265 188 [some (.ref 84), some (.int v1), some (.int v2), none, some (.int v4), some (.int v5), none, some (.int v7), none, none, none] [.int s0, .int s1] h := by
  unfold R_265_188 at e
  exact k_265_188 (hr_12 e)
noncomputable def R_265_176 (rec_12 : Int32 → Int32 → Int32 → Int32 → Int32 → Int32 → Hp → Option (Int32 × Hp)) (v1 : Int32) (v2 : Int32) (v4 : Int32) (v6 : Int32) (v7 : Int32) (s0 : Int32) (h : Hp) : Option (Int32 × Hp) := bndI (S_189 v1 v2 s0 0 h) (R_265_188 rec_12 v1 v2 v4 s0 v7 v6)
theorem r_265_176 {X : GX} {d : Nat} {r : Int32 × Hp} (hd : 3 ≤ d) (hq : RtX X (some (.int r.1)) r.2) {rec_12 : Int32 → Int32 → Int32 → Int32 → Int32 → Int32 → Hp → Option (Int32 × Hp)} (hr_12 : ∀ {v1 : Int32} {v2 : Int32} {v4 : Int32} {v5 : Int32} {v6 : Int32} {v7 : Int32} {h : Hp}, rec_12 v1 v2 v4 v5 v6 v7 h = some r → G X d 265 12 [some (.ref 84), some (.int v1), some (.int v2), none, some (.int v4), some (.int v5), some (.int v6), some (.int v7), none, none, none] [] h) {h : Hp} {v1 : Int32} {v2 : Int32} {v4 : Int32} {v6 : Int32} {v7 : Int32} {s0 : Int32} (e : R_265_176 rec_12 v1 v2 v4 v6 v7 s0 h = some r) : G X d 265 176 [some (.ref 84), some (.int v1), some (.int v2), none, some (.int v4), none, some (.int v6), some (.int v7), none, none, none] [.int s0] h := by
  unfold R_265_176 at e
  obtain ⟨x, h2, e1, e2⟩ := bndI_s e
  refine k_265_176 (by omega) (t_189 e1) ?_
  rintro _ _ ⟨rfl, rfl⟩
  exact r_265_188 hd hq hr_12 e2
noncomputable def R_265_169 (rec_12 : Int32 → Int32 → Int32 → Int32 → Int32 → Int32 → Hp → Option (Int32 × Hp)) (v1 : Int32) (v2 : Int32) (v4 : Int32) (v6 : Int32) (v7 : Int32) (s1 : Int32) (s0 : Int32) (h : Hp) : Option (Int32 × Hp) := bndI (S_186 (s1 + s0) 0 99 h) (R_265_176 rec_12 v1 v2 v4 v6 v7)
theorem r_265_169 {X : GX} {d : Nat} {r : Int32 × Hp} (hd : 3 ≤ d) (hq : RtX X (some (.int r.1)) r.2) {rec_12 : Int32 → Int32 → Int32 → Int32 → Int32 → Int32 → Hp → Option (Int32 × Hp)} (hr_12 : ∀ {v1 : Int32} {v2 : Int32} {v4 : Int32} {v5 : Int32} {v6 : Int32} {v7 : Int32} {h : Hp}, rec_12 v1 v2 v4 v5 v6 v7 h = some r → G X d 265 12 [some (.ref 84), some (.int v1), some (.int v2), none, some (.int v4), some (.int v5), some (.int v6), some (.int v7), none, none, none] [] h) {h : Hp} {v1 : Int32} {v2 : Int32} {v4 : Int32} {v6 : Int32} {v7 : Int32} {s1 : Int32} {s0 : Int32} (e : R_265_169 rec_12 v1 v2 v4 v6 v7 s1 s0 h = some r) : G X d 265 169 [some (.ref 84), some (.int v1), some (.int v2), none, some (.int v4), none, some (.int v6), some (.int v7), none, none, none] [.int s0, .int s1] h := by
  unfold R_265_169 at e
  obtain ⟨x, h2, e1, e2⟩ := bndI_s e
  refine k_265_169 (by omega) (t_186 e1) ?_
  rintro _ _ ⟨rfl, rfl⟩
  exact r_265_176 hd hq hr_12 e2
noncomputable def R_265_147 (rec_12 : Int32 → Int32 → Int32 → Int32 → Int32 → Int32 → Hp → Option (Int32 × Hp)) (v1 : Int32) (v2 : Int32) (v4 : Int32) (v5 : Int32) (v6 : Int32) (v7 : Int32) (h : Hp) : Option (Int32 × Hp) := gd (IA 85 (7 + v7)) (bndI (S_185 v1 ((h 85 (Int32.toNatClampNeg (7 + v7))) / 4) v5 v7 h) (R_265_169 rec_12 v1 v2 v4 v6 v7 v5))
theorem r_265_147 {X : GX} {d : Nat} {r : Int32 × Hp} (hd : 3 ≤ d) (hq : RtX X (some (.int r.1)) r.2) {rec_12 : Int32 → Int32 → Int32 → Int32 → Int32 → Int32 → Hp → Option (Int32 × Hp)} (hr_12 : ∀ {v1 : Int32} {v2 : Int32} {v4 : Int32} {v5 : Int32} {v6 : Int32} {v7 : Int32} {h : Hp}, rec_12 v1 v2 v4 v5 v6 v7 h = some r → G X d 265 12 [some (.ref 84), some (.int v1), some (.int v2), none, some (.int v4), some (.int v5), some (.int v6), some (.int v7), none, none, none] [] h) {h : Hp} {v1 : Int32} {v2 : Int32} {v4 : Int32} {v5 : Int32} {v6 : Int32} {v7 : Int32} (e : R_265_147 rec_12 v1 v2 v4 v5 v6 v7 h = some r) : G X d 265 147 [some (.ref 84), some (.int v1), some (.int v2), none, some (.int v4), some (.int v5), some (.int v6), some (.int v7), none, none, none] [] h := by
  unfold R_265_147 at e
  have g := gd_s e; clear e; obtain ⟨b0, e⟩ := g
  obtain ⟨x, h2, e1, e2⟩ := bndI_s e
  refine k_265_147 b0 (by omega) (t_185 e1) ?_
  rintro _ _ ⟨rfl, rfl⟩
  exact r_265_169 hd hq hr_12 e2
noncomputable def R_265_120 (rec_12 : Int32 → Int32 → Int32 → Int32 → Int32 → Int32 → Hp → Option (Int32 × Hp)) (rec_22 : Int32 → Int32 → Int32 → Int32 → Int32 → Int32 → Int32 → Hp → Option (Int32 × Hp)) (v1 : Int32) (v2 : Int32) (v4 : Int32) (v5 : Int32) (v6 : Int32) (v7 : Int32) (v8 : Int32) (h : Hp) : Option (Int32 × Hp) := rec_22 v1 v2 (v4 ||| 0) v5 v6 v7 (v8 + 1) h
theorem r_265_120 {X : GX} {d : Nat} {r : Int32 × Hp} (hd : 3 ≤ d) (hq : RtX X (some (.int r.1)) r.2) {rec_12 : Int32 → Int32 → Int32 → Int32 → Int32 → Int32 → Hp → Option (Int32 × Hp)} {rec_22 : Int32 → Int32 → Int32 → Int32 → Int32 → Int32 → Int32 → Hp → Option (Int32 × Hp)} (hr_12 : ∀ {v1 : Int32} {v2 : Int32} {v4 : Int32} {v5 : Int32} {v6 : Int32} {v7 : Int32} {h : Hp}, rec_12 v1 v2 v4 v5 v6 v7 h = some r → G X d 265 12 [some (.ref 84), some (.int v1), some (.int v2), none, some (.int v4), some (.int v5), some (.int v6), some (.int v7), none, none, none] [] h) (hr_22 : ∀ {v1 : Int32} {v2 : Int32} {v4 : Int32} {v5 : Int32} {v6 : Int32} {v7 : Int32} {v8 : Int32} {h : Hp}, rec_22 v1 v2 v4 v5 v6 v7 v8 h = some r → G X d 265 22 [some (.ref 84), some (.int v1), some (.int v2), none, some (.int v4), some (.int v5), some (.int v6), some (.int v7), some (.int v8), none, none] [] h) {h : Hp} {v1 : Int32} {v2 : Int32} {v4 : Int32} {v5 : Int32} {v6 : Int32} {v7 : Int32} {v8 : Int32} (e : R_265_120 rec_12 rec_22 v1 v2 v4 v5 v6 v7 v8 h = some r) : G X d 265 120 [some (.ref 84), some (.int v1), some (.int v2), none, some (.int v4), some (.int v5), some (.int v6), some (.int v7), some (.int v8), none, none] [] h := by
  unfold R_265_120 at e
  exact k_265_120 (hr_22 e)
noncomputable def R_265_116 (rec_12 : Int32 → Int32 → Int32 → Int32 → Int32 → Int32 → Hp → Option (Int32 × Hp)) (rec_22 : Int32 → Int32 → Int32 → Int32 → Int32 → Int32 → Int32 → Hp → Option (Int32 × Hp)) (v1 : Int32) (v2 : Int32) (v4 : Int32) (v5 : Int32) (v6 : Int32) (v7 : Int32) (v8 : Int32) (h : Hp) : Option (Int32 × Hp) := rec_22 v1 v2 (v4 ||| (1 <<< (v8 &&& 31))) v5 v6 v7 (v8 + 1) h
theorem r_265_116 {X : GX} {d : Nat} {r : Int32 × Hp} (hd : 3 ≤ d) (hq : RtX X (some (.int r.1)) r.2) {rec_12 : Int32 → Int32 → Int32 → Int32 → Int32 → Int32 → Hp → Option (Int32 × Hp)} {rec_22 : Int32 → Int32 → Int32 → Int32 → Int32 → Int32 → Int32 → Hp → Option (Int32 × Hp)} (hr_12 : ∀ {v1 : Int32} {v2 : Int32} {v4 : Int32} {v5 : Int32} {v6 : Int32} {v7 : Int32} {h : Hp}, rec_12 v1 v2 v4 v5 v6 v7 h = some r → G X d 265 12 [some (.ref 84), some (.int v1), some (.int v2), none, some (.int v4), some (.int v5), some (.int v6), some (.int v7), none, none, none] [] h) (hr_22 : ∀ {v1 : Int32} {v2 : Int32} {v4 : Int32} {v5 : Int32} {v6 : Int32} {v7 : Int32} {v8 : Int32} {h : Hp}, rec_22 v1 v2 v4 v5 v6 v7 v8 h = some r → G X d 265 22 [some (.ref 84), some (.int v1), some (.int v2), none, some (.int v4), some (.int v5), some (.int v6), some (.int v7), some (.int v8), none, none] [] h) {h : Hp} {v1 : Int32} {v2 : Int32} {v4 : Int32} {v5 : Int32} {v6 : Int32} {v7 : Int32} {v8 : Int32} (e : R_265_116 rec_12 rec_22 v1 v2 v4 v5 v6 v7 v8 h = some r) : G X d 265 116 [some (.ref 84), some (.int v1), some (.int v2), none, some (.int v4), some (.int v5), some (.int v6), some (.int v7), some (.int v8), none, none] [] h := by
  unfold R_265_116 at e
  exact k_265_116 (hr_22 e)
noncomputable def R_265_113 (rec_12 : Int32 → Int32 → Int32 → Int32 → Int32 → Int32 → Hp → Option (Int32 × Hp)) (rec_22 : Int32 → Int32 → Int32 → Int32 → Int32 → Int32 → Int32 → Hp → Option (Int32 × Hp)) (v1 : Int32) (v2 : Int32) (v4 : Int32) (v5 : Int32) (v6 : Int32) (v7 : Int32) (v8 : Int32) (s0 : Int32) (h : Hp) : Option (Int32 × Hp) := if s0 = 0 then R_265_120 rec_12 rec_22 v1 v2 v4 v5 v6 v7 v8 h else R_265_116 rec_12 rec_22 v1 v2 v4 v5 v6 v7 v8 h
theorem r_265_113 {X : GX} {d : Nat} {r : Int32 × Hp} (hd : 3 ≤ d) (hq : RtX X (some (.int r.1)) r.2) {rec_12 : Int32 → Int32 → Int32 → Int32 → Int32 → Int32 → Hp → Option (Int32 × Hp)} {rec_22 : Int32 → Int32 → Int32 → Int32 → Int32 → Int32 → Int32 → Hp → Option (Int32 × Hp)} (hr_12 : ∀ {v1 : Int32} {v2 : Int32} {v4 : Int32} {v5 : Int32} {v6 : Int32} {v7 : Int32} {h : Hp}, rec_12 v1 v2 v4 v5 v6 v7 h = some r → G X d 265 12 [some (.ref 84), some (.int v1), some (.int v2), none, some (.int v4), some (.int v5), some (.int v6), some (.int v7), none, none, none] [] h) (hr_22 : ∀ {v1 : Int32} {v2 : Int32} {v4 : Int32} {v5 : Int32} {v6 : Int32} {v7 : Int32} {v8 : Int32} {h : Hp}, rec_22 v1 v2 v4 v5 v6 v7 v8 h = some r → G X d 265 22 [some (.ref 84), some (.int v1), some (.int v2), none, some (.int v4), some (.int v5), some (.int v6), some (.int v7), some (.int v8), none, none] [] h) {h : Hp} {v1 : Int32} {v2 : Int32} {v4 : Int32} {v5 : Int32} {v6 : Int32} {v7 : Int32} {v8 : Int32} {s0 : Int32} (e : R_265_113 rec_12 rec_22 v1 v2 v4 v5 v6 v7 v8 s0 h = some r) : G X d 265 113 [some (.ref 84), some (.int v1), some (.int v2), none, some (.int v4), some (.int v5), some (.int v6), some (.int v7), some (.int v8), none, none] [.int s0] h := by
  unfold R_265_113 at e
  refine k_265_113 (fun c => ?_) (fun c => ?_)
  · rw [if_pos c] at e; exact r_265_120 hd hq hr_12 hr_22 e
  · rw [if_neg c] at e; exact r_265_116 hd hq hr_12 hr_22 e
noncomputable def R_265_77 (rec_12 : Int32 → Int32 → Int32 → Int32 → Int32 → Int32 → Hp → Option (Int32 × Hp)) (rec_22 : Int32 → Int32 → Int32 → Int32 → Int32 → Int32 → Int32 → Hp → Option (Int32 × Hp)) (v1 : Int32) (v2 : Int32) (v4 : Int32) (v5 : Int32) (v6 : Int32) (v7 : Int32) (v8 : Int32) (v9 : Int32) (h : Hp) : Option (Int32 × Hp) := gd (IA 85 ((65 + (4 * v8)) + 2) ∧ IA 85 ((65 + (4 * v8)) + 3)) (bndI (S_177 (Int32.toInt64 v9) (Int32.toInt64 (h 85 (Int32.toNatClampNeg ((65 + (4 * v8)) + 2)))) (Int32.toInt64 (h 85 (Int32.toNatClampNeg ((65 + (4 * v8)) + 3)))) h) (R_265_113 rec_12 rec_22 v1 v2 v4 v5 v6 v7 v8))
theorem r_265_77 {X : GX} {d : Nat} {r : Int32 × Hp} (hd : 3 ≤ d) (hq : RtX X (some (.int r.1)) r.2) {rec_12 : Int32 → Int32 → Int32 → Int32 → Int32 → Int32 → Hp → Option (Int32 × Hp)} {rec_22 : Int32 → Int32 → Int32 → Int32 → Int32 → Int32 → Int32 → Hp → Option (Int32 × Hp)} (hr_12 : ∀ {v1 : Int32} {v2 : Int32} {v4 : Int32} {v5 : Int32} {v6 : Int32} {v7 : Int32} {h : Hp}, rec_12 v1 v2 v4 v5 v6 v7 h = some r → G X d 265 12 [some (.ref 84), some (.int v1), some (.int v2), none, some (.int v4), some (.int v5), some (.int v6), some (.int v7), none, none, none] [] h) (hr_22 : ∀ {v1 : Int32} {v2 : Int32} {v4 : Int32} {v5 : Int32} {v6 : Int32} {v7 : Int32} {v8 : Int32} {h : Hp}, rec_22 v1 v2 v4 v5 v6 v7 v8 h = some r → G X d 265 22 [some (.ref 84), some (.int v1), some (.int v2), none, some (.int v4), some (.int v5), some (.int v6), some (.int v7), some (.int v8), none, none] [] h) {h : Hp} {v1 : Int32} {v2 : Int32} {v4 : Int32} {v5 : Int32} {v6 : Int32} {v7 : Int32} {v8 : Int32} {v9 : Int32} (e : R_265_77 rec_12 rec_22 v1 v2 v4 v5 v6 v7 v8 v9 h = some r) : G X d 265 77 [some (.ref 84), some (.int v1), some (.int v2), none, some (.int v4), some (.int v5), some (.int v6), some (.int v7), some (.int v8), some (.int v9), none] [] h := by
  unfold R_265_77 at e
  have g := gd_s e; clear e; obtain ⟨⟨b0, b1⟩, e⟩ := g
  obtain ⟨x, h2, e1, e2⟩ := bndI_s e
  refine k_265_77 b0 b1 (by omega) (t_177 e1) ?_
  rintro _ _ ⟨rfl, rfl⟩
  exact r_265_113 hd hq hr_12 hr_22 e2
noncomputable def R_265_56 (rec_12 : Int32 → Int32 → Int32 → Int32 → Int32 → Int32 → Hp → Option (Int32 × Hp)) (rec_22 : Int32 → Int32 → Int32 → Int32 → Int32 → Int32 → Int32 → Hp → Option (Int32 × Hp)) (v1 : Int32) (v2 : Int32) (v4 : Int32) (v5 : Int32) (v6 : Int32) (v7 : Int32) (v8 : Int32) (h : Hp) : Option (Int32 × Hp) := gd (IA 85 (65 + (4 * v8))) (if (h 85 (Int32.toNatClampNeg (65 + (4 * v8)))) = v7 then R_265_77 rec_12 rec_22 v1 v2 v4 v5 v6 v7 v8 v6 h else R_265_120 rec_12 rec_22 v1 v2 v4 v5 v6 v7 v8 h)
theorem r_265_56 {X : GX} {d : Nat} {r : Int32 × Hp} (hd : 3 ≤ d) (hq : RtX X (some (.int r.1)) r.2) {rec_12 : Int32 → Int32 → Int32 → Int32 → Int32 → Int32 → Hp → Option (Int32 × Hp)} {rec_22 : Int32 → Int32 → Int32 → Int32 → Int32 → Int32 → Int32 → Hp → Option (Int32 × Hp)} (hr_12 : ∀ {v1 : Int32} {v2 : Int32} {v4 : Int32} {v5 : Int32} {v6 : Int32} {v7 : Int32} {h : Hp}, rec_12 v1 v2 v4 v5 v6 v7 h = some r → G X d 265 12 [some (.ref 84), some (.int v1), some (.int v2), none, some (.int v4), some (.int v5), some (.int v6), some (.int v7), none, none, none] [] h) (hr_22 : ∀ {v1 : Int32} {v2 : Int32} {v4 : Int32} {v5 : Int32} {v6 : Int32} {v7 : Int32} {v8 : Int32} {h : Hp}, rec_22 v1 v2 v4 v5 v6 v7 v8 h = some r → G X d 265 22 [some (.ref 84), some (.int v1), some (.int v2), none, some (.int v4), some (.int v5), some (.int v6), some (.int v7), some (.int v8), none, none] [] h) {h : Hp} {v1 : Int32} {v2 : Int32} {v4 : Int32} {v5 : Int32} {v6 : Int32} {v7 : Int32} {v8 : Int32} (e : R_265_56 rec_12 rec_22 v1 v2 v4 v5 v6 v7 v8 h = some r) : G X d 265 56 [some (.ref 84), some (.int v1), some (.int v2), none, some (.int v4), some (.int v5), some (.int v6), some (.int v7), some (.int v8), none, none] [] h := by
  unfold R_265_56 at e
  have g := gd_s e; clear e; obtain ⟨b0, e⟩ := g
  refine k_265_56 b0 (fun c => ?_) (fun c => ?_)
  · rw [if_neg c] at e; exact r_265_120 hd hq hr_12 hr_22 e
  · rw [if_pos c] at e; exact r_265_77 hd hq hr_12 hr_22 e
noncomputable def R_265_51 (rec_12 : Int32 → Int32 → Int32 → Int32 → Int32 → Int32 → Hp → Option (Int32 × Hp)) (rec_22 : Int32 → Int32 → Int32 → Int32 → Int32 → Int32 → Int32 → Hp → Option (Int32 × Hp)) (v1 : Int32) (v2 : Int32) (v4 : Int32) (v5 : Int32) (v6 : Int32) (v7 : Int32) (v8 : Int32) (h : Hp) : Option (Int32 × Hp) := gd (IA 85 (65 + (4 * v8))) (if (h 85 (Int32.toNatClampNeg (65 + (4 * v8)))) = v7 then R_265_77 rec_12 rec_22 v1 v2 v4 v5 v6 v7 v8 v5 h else R_265_120 rec_12 rec_22 v1 v2 v4 v5 v6 v7 v8 h)
theorem r_265_51 {X : GX} {d : Nat} {r : Int32 × Hp} (hd : 3 ≤ d) (hq : RtX X (some (.int r.1)) r.2) {rec_12 : Int32 → Int32 → Int32 → Int32 → Int32 → Int32 → Hp → Option (Int32 × Hp)} {rec_22 : Int32 → Int32 → Int32 → Int32 → Int32 → Int32 → Int32 → Hp → Option (Int32 × Hp)} (hr_12 : ∀ {v1 : Int32} {v2 : Int32} {v4 : Int32} {v5 : Int32} {v6 : Int32} {v7 : Int32} {h : Hp}, rec_12 v1 v2 v4 v5 v6 v7 h = some r → G X d 265 12 [some (.ref 84), some (.int v1), some (.int v2), none, some (.int v4), some (.int v5), some (.int v6), some (.int v7), none, none, none] [] h) (hr_22 : ∀ {v1 : Int32} {v2 : Int32} {v4 : Int32} {v5 : Int32} {v6 : Int32} {v7 : Int32} {v8 : Int32} {h : Hp}, rec_22 v1 v2 v4 v5 v6 v7 v8 h = some r → G X d 265 22 [some (.ref 84), some (.int v1), some (.int v2), none, some (.int v4), some (.int v5), some (.int v6), some (.int v7), some (.int v8), none, none] [] h) {h : Hp} {v1 : Int32} {v2 : Int32} {v4 : Int32} {v5 : Int32} {v6 : Int32} {v7 : Int32} {v8 : Int32} (e : R_265_51 rec_12 rec_22 v1 v2 v4 v5 v6 v7 v8 h = some r) : G X d 265 51 [some (.ref 84), some (.int v1), some (.int v2), none, some (.int v4), some (.int v5), some (.int v6), some (.int v7), some (.int v8), none, none] [] h := by
  unfold R_265_51 at e
  have g := gd_s e; clear e; obtain ⟨b0, e⟩ := g
  refine k_265_51 b0 (fun c => ?_) (fun c => ?_)
  · rw [if_neg c] at e; exact r_265_120 hd hq hr_12 hr_22 e
  · rw [if_pos c] at e; exact r_265_77 hd hq hr_12 hr_22 e
noncomputable def R_265_34 (rec_12 : Int32 → Int32 → Int32 → Int32 → Int32 → Int32 → Hp → Option (Int32 × Hp)) (rec_22 : Int32 → Int32 → Int32 → Int32 → Int32 → Int32 → Int32 → Hp → Option (Int32 × Hp)) (v1 : Int32) (v2 : Int32) (v4 : Int32) (v5 : Int32) (v6 : Int32) (v7 : Int32) (v8 : Int32) (h : Hp) : Option (Int32 × Hp) := gd (IA 85 ((65 + (4 * v8)) + 1)) (if (h 85 (Int32.toNatClampNeg ((65 + (4 * v8)) + 1))) = 0 then R_265_51 rec_12 rec_22 v1 v2 v4 v5 v6 v7 v8 h else R_265_56 rec_12 rec_22 v1 v2 v4 v5 v6 v7 v8 h)
theorem r_265_34 {X : GX} {d : Nat} {r : Int32 × Hp} (hd : 3 ≤ d) (hq : RtX X (some (.int r.1)) r.2) {rec_12 : Int32 → Int32 → Int32 → Int32 → Int32 → Int32 → Hp → Option (Int32 × Hp)} {rec_22 : Int32 → Int32 → Int32 → Int32 → Int32 → Int32 → Int32 → Hp → Option (Int32 × Hp)} (hr_12 : ∀ {v1 : Int32} {v2 : Int32} {v4 : Int32} {v5 : Int32} {v6 : Int32} {v7 : Int32} {h : Hp}, rec_12 v1 v2 v4 v5 v6 v7 h = some r → G X d 265 12 [some (.ref 84), some (.int v1), some (.int v2), none, some (.int v4), some (.int v5), some (.int v6), some (.int v7), none, none, none] [] h) (hr_22 : ∀ {v1 : Int32} {v2 : Int32} {v4 : Int32} {v5 : Int32} {v6 : Int32} {v7 : Int32} {v8 : Int32} {h : Hp}, rec_22 v1 v2 v4 v5 v6 v7 v8 h = some r → G X d 265 22 [some (.ref 84), some (.int v1), some (.int v2), none, some (.int v4), some (.int v5), some (.int v6), some (.int v7), some (.int v8), none, none] [] h) {h : Hp} {v1 : Int32} {v2 : Int32} {v4 : Int32} {v5 : Int32} {v6 : Int32} {v7 : Int32} {v8 : Int32} (e : R_265_34 rec_12 rec_22 v1 v2 v4 v5 v6 v7 v8 h = some r) : G X d 265 34 [some (.ref 84), some (.int v1), some (.int v2), none, some (.int v4), some (.int v5), some (.int v6), some (.int v7), some (.int v8), none, none] [] h := by
  unfold R_265_34 at e
  have g := gd_s e; clear e; obtain ⟨b0, e⟩ := g
  refine k_265_34 b0 (fun c => ?_) (fun c => ?_)
  · rw [if_neg c] at e; exact r_265_56 hd hq hr_12 hr_22 e
  · rw [if_pos c] at e; exact r_265_51 hd hq hr_12 hr_22 e
noncomputable def R_265_22 (rec_12 : Int32 → Int32 → Int32 → Int32 → Int32 → Int32 → Hp → Option (Int32 × Hp)) (rec_22 : Int32 → Int32 → Int32 → Int32 → Int32 → Int32 → Int32 → Hp → Option (Int32 × Hp)) (v1 : Int32) (v2 : Int32) (v4 : Int32) (v5 : Int32) (v6 : Int32) (v7 : Int32) (v8 : Int32) (h : Hp) : Option (Int32 × Hp) := gd (IA 85 6) (if (h 85 (Int32.toNatClampNeg 6)) ≤ v8 then R_265_147 rec_12 v1 v2 v4 v5 v6 v7 h else R_265_34 rec_12 rec_22 v1 v2 v4 v5 v6 v7 v8 h)
theorem r_265_22 {X : GX} {d : Nat} {r : Int32 × Hp} (hd : 3 ≤ d) (hq : RtX X (some (.int r.1)) r.2) {rec_12 : Int32 → Int32 → Int32 → Int32 → Int32 → Int32 → Hp → Option (Int32 × Hp)} {rec_22 : Int32 → Int32 → Int32 → Int32 → Int32 → Int32 → Int32 → Hp → Option (Int32 × Hp)} (hr_12 : ∀ {v1 : Int32} {v2 : Int32} {v4 : Int32} {v5 : Int32} {v6 : Int32} {v7 : Int32} {h : Hp}, rec_12 v1 v2 v4 v5 v6 v7 h = some r → G X d 265 12 [some (.ref 84), some (.int v1), some (.int v2), none, some (.int v4), some (.int v5), some (.int v6), some (.int v7), none, none, none] [] h) (hr_22 : ∀ {v1 : Int32} {v2 : Int32} {v4 : Int32} {v5 : Int32} {v6 : Int32} {v7 : Int32} {v8 : Int32} {h : Hp}, rec_22 v1 v2 v4 v5 v6 v7 v8 h = some r → G X d 265 22 [some (.ref 84), some (.int v1), some (.int v2), none, some (.int v4), some (.int v5), some (.int v6), some (.int v7), some (.int v8), none, none] [] h) {h : Hp} {v1 : Int32} {v2 : Int32} {v4 : Int32} {v5 : Int32} {v6 : Int32} {v7 : Int32} {v8 : Int32} (e : R_265_22 rec_12 rec_22 v1 v2 v4 v5 v6 v7 v8 h = some r) : G X d 265 22 [some (.ref 84), some (.int v1), some (.int v2), none, some (.int v4), some (.int v5), some (.int v6), some (.int v7), some (.int v8), none, none] [] h := by
  unfold R_265_22 at e
  have g := gd_s e; clear e; obtain ⟨b0, e⟩ := g
  refine k_265_22 b0 (fun c => ?_) (fun c => ?_)
  · rw [if_pos c] at e; exact r_265_147 hd hq hr_12 e
  · rw [if_neg c] at e; exact r_265_34 hd hq hr_12 hr_22 e
noncomputable def H_265_22 (rec_12 : Int32 → Int32 → Int32 → Int32 → Int32 → Int32 → Hp → Option (Int32 × Hp)) : Nat → Int32 → Int32 → Int32 → Int32 → Int32 → Int32 → Int32 → Hp → Option (Int32 × Hp)
  | 0, _, _, _, _, _, _, _, _ => none
  | n + 1, v1, v2, v4, v5, v6, v7, v8, h => R_265_22 rec_12 (H_265_22 rec_12 n) v1 v2 v4 v5 v6 v7 v8 h
theorem h_265_22 {X : GX} {d : Nat} {r : Int32 × Hp} (hd : 3 ≤ d) (hq : RtX X (some (.int r.1)) r.2) {rec_12 : Int32 → Int32 → Int32 → Int32 → Int32 → Int32 → Hp → Option (Int32 × Hp)} (hr_12 : ∀ {v1 : Int32} {v2 : Int32} {v4 : Int32} {v5 : Int32} {v6 : Int32} {v7 : Int32} {h : Hp}, rec_12 v1 v2 v4 v5 v6 v7 h = some r → G X d 265 12 [some (.ref 84), some (.int v1), some (.int v2), none, some (.int v4), some (.int v5), some (.int v6), some (.int v7), none, none, none] [] h) {n : Nat} {h : Hp} {v1 : Int32} {v2 : Int32} {v4 : Int32} {v5 : Int32} {v6 : Int32} {v7 : Int32} {v8 : Int32} (e : H_265_22 rec_12 n v1 v2 v4 v5 v6 v7 v8 h = some r) : G X d 265 22 [some (.ref 84), some (.int v1), some (.int v2), none, some (.int v4), some (.int v5), some (.int v6), some (.int v7), some (.int v8), none, none] [] h := by
  induction n generalizing v1 v2 v4 v5 v6 v7 v8 h with
  | zero => cases e
  | succ n ih => exact r_265_22 hd hq hr_12 (fun e => ih e) e
noncomputable def R_265_19 (rec_12 : Int32 → Int32 → Int32 → Int32 → Int32 → Int32 → Hp → Option (Int32 × Hp)) (v1 : Int32) (v2 : Int32) (v4 : Int32) (v5 : Int32) (v6 : Int32) (v7 : Int32) (h : Hp) : Option (Int32 × Hp) := H_265_22 rec_12 fuL v1 v2 v4 v5 v6 v7 0 h
theorem r_265_19 {X : GX} {d : Nat} {r : Int32 × Hp} (hd : 3 ≤ d) (hq : RtX X (some (.int r.1)) r.2) {rec_12 : Int32 → Int32 → Int32 → Int32 → Int32 → Int32 → Hp → Option (Int32 × Hp)} (hr_12 : ∀ {v1 : Int32} {v2 : Int32} {v4 : Int32} {v5 : Int32} {v6 : Int32} {v7 : Int32} {h : Hp}, rec_12 v1 v2 v4 v5 v6 v7 h = some r → G X d 265 12 [some (.ref 84), some (.int v1), some (.int v2), none, some (.int v4), some (.int v5), some (.int v6), some (.int v7), none, none, none] [] h) {h : Hp} {v1 : Int32} {v2 : Int32} {v4 : Int32} {v5 : Int32} {v6 : Int32} {v7 : Int32} (e : R_265_19 rec_12 v1 v2 v4 v5 v6 v7 h = some r) : G X d 265 19 [some (.ref 84), some (.int v1), some (.int v2), none, some (.int v4), some (.int v5), some (.int v6), some (.int v7), none, none, none] [] h := by
  unfold R_265_19 at e
  exact k_265_19 (h_265_22 hd hq hr_12 e)
noncomputable def R_265_12 (rec_12 : Int32 → Int32 → Int32 → Int32 → Int32 → Int32 → Hp → Option (Int32 × Hp)) (v1 : Int32) (v2 : Int32) (v4 : Int32) (v5 : Int32) (v6 : Int32) (v7 : Int32) (h : Hp) : Option (Int32 × Hp) := if 16 ≤ v7 then R_265_197 v4 h else R_265_19 rec_12 v1 v2 v4 v5 v6 v7 h
theorem r_265_12 {X : GX} {d : Nat} {r : Int32 × Hp} (hd : 3 ≤ d) (hq : RtX X (some (.int r.1)) r.2) {rec_12 : Int32 → Int32 → Int32 → Int32 → Int32 → Int32 → Hp → Option (Int32 × Hp)} (hr_12 : ∀ {v1 : Int32} {v2 : Int32} {v4 : Int32} {v5 : Int32} {v6 : Int32} {v7 : Int32} {h : Hp}, rec_12 v1 v2 v4 v5 v6 v7 h = some r → G X d 265 12 [some (.ref 84), some (.int v1), some (.int v2), none, some (.int v4), some (.int v5), some (.int v6), some (.int v7), none, none, none] [] h) {h : Hp} {v1 : Int32} {v2 : Int32} {v4 : Int32} {v5 : Int32} {v6 : Int32} {v7 : Int32} (e : R_265_12 rec_12 v1 v2 v4 v5 v6 v7 h = some r) : G X d 265 12 [some (.ref 84), some (.int v1), some (.int v2), none, some (.int v4), some (.int v5), some (.int v6), some (.int v7), none, none, none] [] h := by
  unfold R_265_12 at e
  refine k_265_12 (fun c => ?_) (fun c => ?_)
  · rw [if_pos c] at e; exact r_265_197 hd hq e
  · rw [if_neg c] at e; exact r_265_19 hd hq hr_12 e
noncomputable def H_265_12 : Nat → Int32 → Int32 → Int32 → Int32 → Int32 → Int32 → Hp → Option (Int32 × Hp)
  | 0, _, _, _, _, _, _, _ => none
  | n + 1, v1, v2, v4, v5, v6, v7, h => R_265_12 (H_265_12 n) v1 v2 v4 v5 v6 v7 h
theorem h_265_12 {X : GX} {d : Nat} {r : Int32 × Hp} (hd : 3 ≤ d) (hq : RtX X (some (.int r.1)) r.2) {n : Nat} {h : Hp} {v1 : Int32} {v2 : Int32} {v4 : Int32} {v5 : Int32} {v6 : Int32} {v7 : Int32} (e : H_265_12 n v1 v2 v4 v5 v6 v7 h = some r) : G X d 265 12 [some (.ref 84), some (.int v1), some (.int v2), none, some (.int v4), some (.int v5), some (.int v6), some (.int v7), none, none, none] [] h := by
  induction n generalizing v1 v2 v4 v5 v6 v7 h with
  | zero => cases e
  | succ n ih => exact r_265_12 hd hq (fun e => ih e) e
noncomputable def R_265_0 (v1 : Int32) (v2 : Int32) (v3 : Int32) (h : Hp) : Option (Int32 × Hp) := H_265_12 fuL v1 v2 0 v3 0 0 h
theorem r_265_0 {X : GX} {d : Nat} {r : Int32 × Hp} (hd : 3 ≤ d) (hq : RtX X (some (.int r.1)) r.2) {h : Hp} {v1 : Int32} {v2 : Int32} {v3 : Int32} (e : R_265_0 v1 v2 v3 h = some r) : G X d 265 0 [some (.ref 84), some (.int v1), some (.int v2), some (.int v3), none, none, none, none, none, none, none] [] h := by
  unfold R_265_0 at e
  exact k_265_0 (h_265_12 hd hq e)
noncomputable def S_265 (v1 : Int32) (v2 : Int32) (v3 : Int32) (h : Hp) : Option (Int32 × Hp) := R_265_0 v1 v2 v3 h
set_option maxRecDepth 100000 in
theorem t_265 {v1 : Int32} {v2 : Int32} {v3 : Int32} {h : Hp} {r : Int32 × Hp} (e : S_265 v1 v2 v3 h = some r) : CI 3 265 [.ref 84, .int v1, .int v2, .int v3] h (fun x g => x = r.1 ∧ g = r.2) := by
  refine C.of mo_265 (Nat.le_of_ble_eq_true rfl) (fun X hq => ?_)
  exact r_265_0 (Nat.le_refl _) (hq _ _ ⟨_, rfl, rfl, rfl⟩) e
/-! 264 PlayedTruthModel.findLone(I)V -/
noncomputable def R_264_115 (h : Hp) : Option (Int32 × Hp) := some (0, h)
theorem r_264_115 {X : GX} {d : Nat} {r : Int32 × Hp} (hd : 4 ≤ d) (hq : RtX X none r.2) {h : Hp} (e : R_264_115 h = some r) : G X d 264 115 [none, none, none, none, none] [] h := by
  unfold R_264_115 at e
  rw [← Option.some.inj e] at hq
  exact k_264_115 hq
noncomputable def R_264_70 (rec_31 : Int32 → Int32 → Hp → Option (Int32 × Hp)) (v2 : Int32) (v3 : Int32) (h : Hp) : Option (Int32 × Hp) := rec_31 v2 (v3 + (-1)) ((wr (wr h 84 24 ((h 84 24) + 0)) 84 25 ((wr h 84 24 ((h 84 24) + 0)) 84 25)))
theorem r_264_70 {X : GX} {d : Nat} {r : Int32 × Hp} (hd : 4 ≤ d) (hq : RtX X none r.2) {rec_31 : Int32 → Int32 → Hp → Option (Int32 × Hp)} (hr_31 : ∀ {v2 : Int32} {v3 : Int32} {h : Hp}, rec_31 v2 v3 h = some r → G X d 264 31 [some (.ref 84), none, some (.int v2), some (.int v3), none] [] h) {h : Hp} {v2 : Int32} {v3 : Int32} (e : R_264_70 rec_31 v2 v3 h = some r) : G X d 264 70 [some (.ref 84), none, some (.int v2), some (.int v3), none] [] h := by
  unfold R_264_70 at e
  exact k_264_70 (hr_31 e)
noncomputable def R_264_66 (rec_31 : Int32 → Int32 → Hp → Option (Int32 × Hp)) (v2 : Int32) (v3 : Int32) (h : Hp) : Option (Int32 × Hp) := rec_31 v2 (v3 + (-1)) ((wr (wr h 84 24 ((h 84 24) + 1)) 84 25 v3))
theorem r_264_66 {X : GX} {d : Nat} {r : Int32 × Hp} (hd : 4 ≤ d) (hq : RtX X none r.2) {rec_31 : Int32 → Int32 → Hp → Option (Int32 × Hp)} (hr_31 : ∀ {v2 : Int32} {v3 : Int32} {h : Hp}, rec_31 v2 v3 h = some r → G X d 264 31 [some (.ref 84), none, some (.int v2), some (.int v3), none] [] h) {h : Hp} {v2 : Int32} {v3 : Int32} (e : R_264_66 rec_31 v2 v3 h = some r) : G X d 264 66 [some (.ref 84), none, some (.int v2), some (.int v3), none] [] h := by
  unfold R_264_66 at e
  exact k_264_66 (hr_31 e)
noncomputable def R_264_60 (rec_31 : Int32 → Int32 → Hp → Option (Int32 × Hp)) (v2 : Int32) (v3 : Int32) (s1 : Int32) (s0 : Int32) (h : Hp) : Option (Int32 × Hp) := if (s1 &&& (s0 ^^^ ((-1)))) = 0 then R_264_66 rec_31 v2 v3 h else R_264_70 rec_31 v2 v3 h
theorem r_264_60 {X : GX} {d : Nat} {r : Int32 × Hp} (hd : 4 ≤ d) (hq : RtX X none r.2) {rec_31 : Int32 → Int32 → Hp → Option (Int32 × Hp)} (hr_31 : ∀ {v2 : Int32} {v3 : Int32} {h : Hp}, rec_31 v2 v3 h = some r → G X d 264 31 [some (.ref 84), none, some (.int v2), some (.int v3), none] [] h) {h : Hp} {v2 : Int32} {v3 : Int32} {s1 : Int32} {s0 : Int32} (e : R_264_60 rec_31 v2 v3 s1 s0 h = some r) : G X d 264 60 [some (.ref 84), none, some (.int v2), some (.int v3), none] [.int s0, .int s1] h := by
  unfold R_264_60 at e
  refine k_264_60 (fun c => ?_) (fun c => ?_)
  · rw [if_neg c] at e; exact r_264_70 hd hq hr_31 e
  · rw [if_pos c] at e; exact r_264_66 hd hq hr_31 e
noncomputable def R_264_35 (rec_31 : Int32 → Int32 → Hp → Option (Int32 × Hp)) (v2 : Int32) (v3 : Int32) (h : Hp) : Option (Int32 × Hp) := bndI (S_265 (1 + (v3 / 100)) ((v3 / 10) - (v3 / 10) / 10 * 10) (6 * (v3 - v3 / 10 * 10)) h) (R_264_60 rec_31 v2 v3 v2)
theorem r_264_35 {X : GX} {d : Nat} {r : Int32 × Hp} (hd : 4 ≤ d) (hq : RtX X none r.2) {rec_31 : Int32 → Int32 → Hp → Option (Int32 × Hp)} (hr_31 : ∀ {v2 : Int32} {v3 : Int32} {h : Hp}, rec_31 v2 v3 h = some r → G X d 264 31 [some (.ref 84), none, some (.int v2), some (.int v3), none] [] h) {h : Hp} {v2 : Int32} {v3 : Int32} (e : R_264_35 rec_31 v2 v3 h = some r) : G X d 264 35 [some (.ref 84), none, some (.int v2), some (.int v3), none] [] h := by
  unfold R_264_35 at e
  obtain ⟨x, h2, e1, e2⟩ := bndI_s e
  refine k_264_35 (by omega) (t_265 e1) ?_
  rintro _ _ ⟨rfl, rfl⟩
  exact r_264_60 hd hq hr_31 e2
noncomputable def R_264_31 (rec_31 : Int32 → Int32 → Hp → Option (Int32 × Hp)) (v2 : Int32) (v3 : Int32) (h : Hp) : Option (Int32 × Hp) := if v3 < 0 then R_264_115 h else R_264_35 rec_31 v2 v3 h
theorem r_264_31 {X : GX} {d : Nat} {r : Int32 × Hp} (hd : 4 ≤ d) (hq : RtX X none r.2) {rec_31 : Int32 → Int32 → Hp → Option (Int32 × Hp)} (hr_31 : ∀ {v2 : Int32} {v3 : Int32} {h : Hp}, rec_31 v2 v3 h = some r → G X d 264 31 [some (.ref 84), none, some (.int v2), some (.int v3), none] [] h) {h : Hp} {v2 : Int32} {v3 : Int32} (e : R_264_31 rec_31 v2 v3 h = some r) : G X d 264 31 [some (.ref 84), none, some (.int v2), some (.int v3), none] [] h := by
  unfold R_264_31 at e
  refine k_264_31 (fun c => ?_) (fun c => ?_)
  · rw [if_pos c] at e; exact r_264_115 hd hq e
  · rw [if_neg c] at e; exact r_264_35 hd hq hr_31 e
noncomputable def H_264_31 : Nat → Int32 → Int32 → Hp → Option (Int32 × Hp)
  | 0, _, _, _ => none
  | n + 1, v2, v3, h => R_264_31 (H_264_31 n) v2 v3 h
theorem h_264_31 {X : GX} {d : Nat} {r : Int32 × Hp} (hd : 4 ≤ d) (hq : RtX X none r.2) {n : Nat} {h : Hp} {v2 : Int32} {v3 : Int32} (e : H_264_31 n v2 v3 h = some r) : G X d 264 31 [some (.ref 84), none, some (.int v2), some (.int v3), none] [] h := by
  induction n generalizing v2 v3 h with
  | zero => cases e
  | succ n ih => exact r_264_31 hd hq (fun e => ih e) e
noncomputable def R_264_0 (v1 : Int32) (h : Hp) : Option (Int32 × Hp) := gd (IA 85 6) (H_264_31 fuL (((1 <<< ((h 85 (Int32.toNatClampNeg 6)) &&& 31)) - 1) &&& (v1 ^^^ ((-1)))) 499 ((wr (wr h 84 24 0) 84 25 ((-3)))))
theorem r_264_0 {X : GX} {d : Nat} {r : Int32 × Hp} (hd : 4 ≤ d) (hq : RtX X none r.2) {h : Hp} {v1 : Int32} (e : R_264_0 v1 h = some r) : G X d 264 0 [some (.ref 84), some (.int v1), none, none, none] [] h := by
  unfold R_264_0 at e
  have g := gd_s e; clear e; obtain ⟨b0, e⟩ := g
  exact k_264_0 b0 (h_264_31 hd hq e)
noncomputable def S_264 (v1 : Int32) (h : Hp) : Option (Int32 × Hp) := R_264_0 v1 h
set_option maxRecDepth 100000 in
theorem t_264 {v1 : Int32} {h : Hp} {r : Int32 × Hp} (e : S_264 v1 h = some r) : CV 4 264 [.ref 84, .int v1] h (fun g => g = r.2) := by
  refine C.of mo_264 (Nat.le_of_ble_eq_true rfl) (fun X hq => ?_)
  exact r_264_0 (Nat.le_refl _) (hq _ _ ⟨rfl, rfl⟩) e
/-! 263 PlayedTruthModel.lone(I)I -/
noncomputable def R_263_75 (h : Hp) : Option (Int32 × Hp) := some ((6 * ((h 84 25) - (h 84 25) / 10 * 10)), h)
theorem r_263_75 {X : GX} {d : Nat} {r : Int32 × Hp} (hd : 5 ≤ d) (hq : RtX X (some (.int r.1)) r.2) {h : Hp} (e : R_263_75 h = some r) : G X d 263 75 [some (.ref 84), none] [] h := by
  unfold R_263_75 at e
  rw [← Option.some.inj e] at hq
  exact k_263_75 hq
noncomputable def R_263_62 (h : Hp) : Option (Int32 × Hp) := some ((((h 84 25) / 10) - ((h 84 25) / 10) / 10 * 10), h)
theorem r_263_62 {X : GX} {d : Nat} {r : Int32 × Hp} (hd : 5 ≤ d) (hq : RtX X (some (.int r.1)) r.2) {h : Hp} (e : R_263_62 h = some r) : G X d 263 62 [some (.ref 84), none] [] h := by
  unfold R_263_62 at e
  rw [← Option.some.inj e] at hq
  exact k_263_62 hq
noncomputable def R_263_57 (v1 : Int32) (h : Hp) : Option (Int32 × Hp) := if v1 = 2 then R_263_62 h else R_263_75 h
theorem r_263_57 {X : GX} {d : Nat} {r : Int32 × Hp} (hd : 5 ≤ d) (hq : RtX X (some (.int r.1)) r.2) {h : Hp} {v1 : Int32} (e : R_263_57 v1 h = some r) : G X d 263 57 [some (.ref 84), some (.int v1)] [] h := by
  unfold R_263_57 at e
  refine k_263_57 (fun c => ?_) (fun c => ?_)
  · rw [if_neg c] at e; exact r_263_75 hd hq e
  · rw [if_pos c] at e; exact r_263_62 hd hq e
noncomputable def R_263_45 (h : Hp) : Option (Int32 × Hp) := some ((1 + ((h 84 25) / 100)), h)
theorem r_263_45 {X : GX} {d : Nat} {r : Int32 × Hp} (hd : 5 ≤ d) (hq : RtX X (some (.int r.1)) r.2) {h : Hp} (e : R_263_45 h = some r) : G X d 263 45 [some (.ref 84), none] [] h := by
  unfold R_263_45 at e
  rw [← Option.some.inj e] at hq
  exact k_263_45 hq
noncomputable def R_263_40 (v1 : Int32) (h : Hp) : Option (Int32 × Hp) := if v1 = 1 then R_263_45 h else R_263_57 v1 h
theorem r_263_40 {X : GX} {d : Nat} {r : Int32 × Hp} (hd : 5 ≤ d) (hq : RtX X (some (.int r.1)) r.2) {h : Hp} {v1 : Int32} (e : R_263_40 v1 h = some r) : G X d 263 40 [some (.ref 84), some (.int v1)] [] h := by
  unfold R_263_40 at e
  refine k_263_40 (fun c => ?_) (fun c => ?_)
  · rw [if_neg c] at e; exact r_263_57 hd hq e
  · rw [if_pos c] at e; exact r_263_45 hd hq e
noncomputable def R_263_35 (h : Hp) : Option (Int32 × Hp) := some (((-3)), h)
theorem r_263_35 {X : GX} {d : Nat} {r : Int32 × Hp} (hd : 5 ≤ d) (hq : RtX X (some (.int r.1)) r.2) {h : Hp} (e : R_263_35 h = some r) : G X d 263 35 [none, none] [] h := by
  unfold R_263_35 at e
  rw [← Option.some.inj e] at hq
  exact k_263_35 hq
noncomputable def R_263_28 (v1 : Int32) (h : Hp) : Option (Int32 × Hp) := if 0 ≤ (h 84 25) then R_263_40 v1 h else R_263_35 h
theorem r_263_28 {X : GX} {d : Nat} {r : Int32 × Hp} (hd : 5 ≤ d) (hq : RtX X (some (.int r.1)) r.2) {h : Hp} {v1 : Int32} (e : R_263_28 v1 h = some r) : G X d 263 28 [some (.ref 84), some (.int v1)] [] h := by
  unfold R_263_28 at e
  refine k_263_28 (fun c => ?_) (fun c => ?_)
  · rw [if_pos c] at e; exact r_263_40 hd hq e
  · rw [if_neg c] at e; exact r_263_35 hd hq e
noncomputable def R_263_23 (h : Hp) : Option (Int32 × Hp) := some ((h 84 24), h)
theorem r_263_23 {X : GX} {d : Nat} {r : Int32 × Hp} (hd : 5 ≤ d) (hq : RtX X (some (.int r.1)) r.2) {h : Hp} (e : R_263_23 h = some r) : G X d 263 23 [some (.ref 84), none] [] h := by
  unfold R_263_23 at e
  rw [← Option.some.inj e] at hq
  exact k_263_23 hq
noncomputable def R_263_19 (v1 : Int32) (h : Hp) : Option (Int32 × Hp) := if v1 = 0 then R_263_23 h else R_263_28 v1 h
theorem r_263_19 {X : GX} {d : Nat} {r : Int32 × Hp} (hd : 5 ≤ d) (hq : RtX X (some (.int r.1)) r.2) {h : Hp} {v1 : Int32} (e : R_263_19 v1 h = some r) : G X d 263 19 [some (.ref 84), some (.int v1)] [] h := by
  unfold R_263_19 at e
  refine k_263_19 (fun c => ?_) (fun c => ?_)
  · rw [if_neg c] at e; exact r_263_28 hd hq e
  · rw [if_pos c] at e; exact r_263_23 hd hq e
noncomputable def R_263_14 (v1 : Int32) (h : Hp) : Option (Int32 × Hp) := bndV (S_264 0 h) (R_263_19 v1)
theorem r_263_14 {X : GX} {d : Nat} {r : Int32 × Hp} (hd : 5 ≤ d) (hq : RtX X (some (.int r.1)) r.2) {h : Hp} {v1 : Int32} (e : R_263_14 v1 h = some r) : G X d 263 14 [some (.ref 84), some (.int v1)] [] h := by
  unfold R_263_14 at e
  obtain ⟨x, h2, e1, e2⟩ := bndV_s e
  refine k_263_14 (by omega) (t_264 e1) ?_
  rintro _ rfl
  exact r_263_19 hd hq e2
noncomputable def R_263_12 (h : Hp) : Option (Int32 × Hp) := some (((-1)), h)
theorem r_263_12 {X : GX} {d : Nat} {r : Int32 × Hp} (hd : 5 ≤ d) (hq : RtX X (some (.int r.1)) r.2) {h : Hp} (e : R_263_12 h = some r) : G X d 263 12 [none, none] [] h := by
  unfold R_263_12 at e
  rw [← Option.some.inj e] at hq
  exact k_263_12 hq
noncomputable def R_263_9 (v1 : Int32) (s0 : Int32) (h : Hp) : Option (Int32 × Hp) := if s0 = 0 then R_263_12 h else R_263_14 v1 h
theorem r_263_9 {X : GX} {d : Nat} {r : Int32 × Hp} (hd : 5 ≤ d) (hq : RtX X (some (.int r.1)) r.2) {h : Hp} {v1 : Int32} {s0 : Int32} (e : R_263_9 v1 s0 h = some r) : G X d 263 9 [some (.ref 84), some (.int v1)] [.int s0] h := by
  unfold R_263_9 at e
  refine k_263_9 (fun c => ?_) (fun c => ?_)
  · rw [if_neg c] at e; exact r_263_14 hd hq e
  · rw [if_pos c] at e; exact r_263_12 hd hq e
noncomputable def R_263_0 (v1 : Int32) (h : Hp) : Option (Int32 × Hp) := bndI (S_177 (Int32.toInt64 v1) 0 3 h) (R_263_9 v1)
theorem r_263_0 {X : GX} {d : Nat} {r : Int32 × Hp} (hd : 5 ≤ d) (hq : RtX X (some (.int r.1)) r.2) {h : Hp} {v1 : Int32} (e : R_263_0 v1 h = some r) : G X d 263 0 [some (.ref 84), some (.int v1)] [] h := by
  unfold R_263_0 at e
  obtain ⟨x, h2, e1, e2⟩ := bndI_s e
  refine k_263_0 (by omega) (t_177 e1) ?_
  rintro _ _ ⟨rfl, rfl⟩
  exact r_263_9 hd hq e2
noncomputable def S_263 (v1 : Int32) (h : Hp) : Option (Int32 × Hp) := R_263_0 v1 h
set_option maxRecDepth 100000 in
theorem t_263 {v1 : Int32} {h : Hp} {r : Int32 × Hp} (e : S_263 v1 h = some r) : CI 5 263 [.ref 84, .int v1] h (fun x g => x = r.1 ∧ g = r.2) := by
  refine C.of mo_263 (Nat.le_of_ble_eq_true rfl) (fun X hq => ?_)
  exact r_263_0 (Nat.le_refl _) (hq _ _ ⟨_, rfl, rfl, rfl⟩) e
/-! 266 PlayedTruthModel.liar()I -/
noncomputable def R_266_50 (h : Hp) : Option (Int32 × Hp) := some (((-3)), h)
theorem r_266_50 {X : GX} {d : Nat} {r : Int32 × Hp} (hd : 5 ≤ d) (hq : RtX X (some (.int r.1)) r.2) {h : Hp} (e : R_266_50 h = some r) : G X d 266 50 [none, none] [] h := by
  unfold R_266_50 at e
  rw [← Option.some.inj e] at hq
  exact k_266_50 hq
noncomputable def R_266_44 (rec_17 : Int32 → Hp → Option (Int32 × Hp)) (v1 : Int32) (h : Hp) : Option (Int32 × Hp) := rec_17 (v1 + 1) h
theorem r_266_44 {X : GX} {d : Nat} {r : Int32 × Hp} (hd : 5 ≤ d) (hq : RtX X (some (.int r.1)) r.2) {rec_17 : Int32 → Hp → Option (Int32 × Hp)} (hr_17 : ∀ {v1 : Int32} {h : Hp}, rec_17 v1 h = some r → G X d 266 17 [some (.ref 84), some (.int v1)] [] h) {h : Hp} {v1 : Int32} (e : R_266_44 rec_17 v1 h = some r) : G X d 266 44 [some (.ref 84), some (.int v1)] [] h := by
  unfold R_266_44 at e
  exact k_266_44 (hr_17 e)
noncomputable def R_266_42 (v1 : Int32) (h : Hp) : Option (Int32 × Hp) := some (v1, h)
theorem r_266_42 {X : GX} {d : Nat} {r : Int32 × Hp} (hd : 5 ≤ d) (hq : RtX X (some (.int r.1)) r.2) {h : Hp} {v1 : Int32} (e : R_266_42 v1 h = some r) : G X d 266 42 [none, some (.int v1)] [] h := by
  unfold R_266_42 at e
  rw [← Option.some.inj e] at hq
  exact k_266_42 hq
noncomputable def R_266_35 (rec_17 : Int32 → Hp → Option (Int32 × Hp)) (v1 : Int32) (h : Hp) : Option (Int32 × Hp) := if (h 84 24) ≤ 0 then R_266_44 rec_17 v1 h else R_266_42 v1 h
theorem r_266_35 {X : GX} {d : Nat} {r : Int32 × Hp} (hd : 5 ≤ d) (hq : RtX X (some (.int r.1)) r.2) {rec_17 : Int32 → Hp → Option (Int32 × Hp)} (hr_17 : ∀ {v1 : Int32} {h : Hp}, rec_17 v1 h = some r → G X d 266 17 [some (.ref 84), some (.int v1)] [] h) {h : Hp} {v1 : Int32} (e : R_266_35 rec_17 v1 h = some r) : G X d 266 35 [some (.ref 84), some (.int v1)] [] h := by
  unfold R_266_35 at e
  refine k_266_35 (fun c => ?_) (fun c => ?_)
  · rw [if_pos c] at e; exact r_266_44 hd hq hr_17 e
  · rw [if_neg c] at e; exact r_266_42 hd hq e
noncomputable def R_266_28 (rec_17 : Int32 → Hp → Option (Int32 × Hp)) (v1 : Int32) (h : Hp) : Option (Int32 × Hp) := bndV (S_264 (1 <<< (v1 &&& 31)) h) (R_266_35 rec_17 v1)
theorem r_266_28 {X : GX} {d : Nat} {r : Int32 × Hp} (hd : 5 ≤ d) (hq : RtX X (some (.int r.1)) r.2) {rec_17 : Int32 → Hp → Option (Int32 × Hp)} (hr_17 : ∀ {v1 : Int32} {h : Hp}, rec_17 v1 h = some r → G X d 266 17 [some (.ref 84), some (.int v1)] [] h) {h : Hp} {v1 : Int32} (e : R_266_28 rec_17 v1 h = some r) : G X d 266 28 [some (.ref 84), some (.int v1)] [] h := by
  unfold R_266_28 at e
  obtain ⟨x, h2, e1, e2⟩ := bndV_s e
  refine k_266_28 (by omega) (t_264 e1) ?_
  rintro _ rfl
  exact r_266_35 hd hq hr_17 e2
noncomputable def R_266_17 (rec_17 : Int32 → Hp → Option (Int32 × Hp)) (v1 : Int32) (h : Hp) : Option (Int32 × Hp) := gd (IA 85 6) (if (h 85 (Int32.toNatClampNeg 6)) ≤ v1 then R_266_50 h else R_266_28 rec_17 v1 h)
theorem r_266_17 {X : GX} {d : Nat} {r : Int32 × Hp} (hd : 5 ≤ d) (hq : RtX X (some (.int r.1)) r.2) {rec_17 : Int32 → Hp → Option (Int32 × Hp)} (hr_17 : ∀ {v1 : Int32} {h : Hp}, rec_17 v1 h = some r → G X d 266 17 [some (.ref 84), some (.int v1)] [] h) {h : Hp} {v1 : Int32} (e : R_266_17 rec_17 v1 h = some r) : G X d 266 17 [some (.ref 84), some (.int v1)] [] h := by
  unfold R_266_17 at e
  have g := gd_s e; clear e; obtain ⟨b0, e⟩ := g
  refine k_266_17 b0 (fun c => ?_) (fun c => ?_)
  · rw [if_pos c] at e; exact r_266_50 hd hq e
  · rw [if_neg c] at e; exact r_266_28 hd hq hr_17 e
noncomputable def H_266_17 : Nat → Int32 → Hp → Option (Int32 × Hp)
  | 0, _, _ => none
  | n + 1, v1, h => R_266_17 (H_266_17 n) v1 h
theorem h_266_17 {X : GX} {d : Nat} {r : Int32 × Hp} (hd : 5 ≤ d) (hq : RtX X (some (.int r.1)) r.2) {n : Nat} {h : Hp} {v1 : Int32} (e : H_266_17 n v1 h = some r) : G X d 266 17 [some (.ref 84), some (.int v1)] [] h := by
  induction n generalizing v1 h with
  | zero => cases e
  | succ n ih => exact r_266_17 hd hq (fun e => ih e) e
noncomputable def R_266_15 (h : Hp) : Option (Int32 × Hp) := H_266_17 fuL 0 h
theorem r_266_15 {X : GX} {d : Nat} {r : Int32 × Hp} (hd : 5 ≤ d) (hq : RtX X (some (.int r.1)) r.2) {h : Hp} (e : R_266_15 h = some r) : G X d 266 15 [some (.ref 84), none] [] h := by
  unfold R_266_15 at e
  exact k_266_15 (h_266_17 hd hq e)
noncomputable def R_266_12 (h : Hp) : Option (Int32 × Hp) := some (((-3)), h)
theorem r_266_12 {X : GX} {d : Nat} {r : Int32 × Hp} (hd : 5 ≤ d) (hq : RtX X (some (.int r.1)) r.2) {h : Hp} (e : R_266_12 h = some r) : G X d 266 12 [none, none] [] h := by
  unfold R_266_12 at e
  rw [← Option.some.inj e] at hq
  exact k_266_12 hq
noncomputable def R_266_5 (h : Hp) : Option (Int32 × Hp) := if (h 84 24) ≤ 0 then R_266_15 h else R_266_12 h
theorem r_266_5 {X : GX} {d : Nat} {r : Int32 × Hp} (hd : 5 ≤ d) (hq : RtX X (some (.int r.1)) r.2) {h : Hp} (e : R_266_5 h = some r) : G X d 266 5 [some (.ref 84), none] [] h := by
  unfold R_266_5 at e
  refine k_266_5 (fun c => ?_) (fun c => ?_)
  · rw [if_pos c] at e; exact r_266_15 hd hq e
  · rw [if_neg c] at e; exact r_266_12 hd hq e
noncomputable def R_266_0 (h : Hp) : Option (Int32 × Hp) := bndV (S_264 0 h) (R_266_5)
theorem r_266_0 {X : GX} {d : Nat} {r : Int32 × Hp} (hd : 5 ≤ d) (hq : RtX X (some (.int r.1)) r.2) {h : Hp} (e : R_266_0 h = some r) : G X d 266 0 [some (.ref 84), none] [] h := by
  unfold R_266_0 at e
  obtain ⟨x, h2, e1, e2⟩ := bndV_s e
  refine k_266_0 (by omega) (t_264 e1) ?_
  rintro _ rfl
  exact r_266_5 hd hq e2
noncomputable def S_266 (h : Hp) : Option (Int32 × Hp) := R_266_0 h
set_option maxRecDepth 100000 in
theorem t_266 {h : Hp} {r : Int32 × Hp} (e : S_266 h = some r) : CI 5 266 [.ref 84] h (fun x g => x = r.1 ∧ g = r.2) := by
  refine C.of mo_266 (Nat.le_of_ble_eq_true rfl) (fun X hq => ?_)
  exact r_266_0 (Nat.le_refl _) (hq _ _ ⟨_, rfl, rfl, rfl⟩) e
/-! 267 PlayedTruthModel.seed(I)I -/
noncomputable def R_267_6 (s0 : Int32) (h : Hp) : Option (Int32 × Hp) := some (s0, h)
theorem r_267_6 {X : GX} {d : Nat} {r : Int32 × Hp} (hd : 2 ≤ d) (hq : RtX X (some (.int r.1)) r.2) {h : Hp} {s0 : Int32} (e : R_267_6 s0 h = some r) : G X d 267 6 [none, none] [.int s0] h := by
  unfold R_267_6 at e
  rw [← Option.some.inj e] at hq
  exact k_267_6 hq
noncomputable def R_267_0 (v1 : Int32) (h : Hp) : Option (Int32 × Hp) := bndI (S_197 4 v1 h) (R_267_6)
theorem r_267_0 {X : GX} {d : Nat} {r : Int32 × Hp} (hd : 2 ≤ d) (hq : RtX X (some (.int r.1)) r.2) {h : Hp} {v1 : Int32} (e : R_267_0 v1 h = some r) : G X d 267 0 [some (.ref 84), some (.int v1)] [] h := by
  unfold R_267_0 at e
  obtain ⟨x, h2, e1, e2⟩ := bndI_s e
  refine k_267_0 (by omega) (t_197 e1) ?_
  rintro _ _ ⟨rfl, rfl⟩
  exact r_267_6 hd hq e2
noncomputable def S_267 (v1 : Int32) (h : Hp) : Option (Int32 × Hp) := R_267_0 v1 h
set_option maxRecDepth 100000 in
theorem t_267 {v1 : Int32} {h : Hp} {r : Int32 × Hp} (e : S_267 v1 h = some r) : CI 2 267 [.ref 84, .int v1] h (fun x g => x = r.1 ∧ g = r.2) := by
  refine C.of mo_267 (Nat.le_of_ble_eq_true rfl) (fun X hq => ?_)
  exact r_267_0 (Nat.le_refl _) (hq _ _ ⟨_, rfl, rfl, rfl⟩) e
/-! 269 PlayedTruthModel.lotGoes()I -/
noncomputable def R_269_42 (s0 : Int32) (h : Hp) : Option (Int32 × Hp) := some (s0, h)
theorem r_269_42 {X : GX} {d : Nat} {r : Int32 × Hp} (hd : 8 ≤ d) (hq : RtX X (some (.int r.1)) r.2) {h : Hp} {s0 : Int32} (e : R_269_42 s0 h = some r) : G X d 269 42 [none] [.int s0] h := by
  unfold R_269_42 at e
  rw [← Option.some.inj e] at hq
  exact k_269_42 hq
noncomputable def R_269_0 (h : Hp) : Option (Int32 × Hp) := gd (IA 85 4 ∧ IA 85 0 ∧ ¬ (((wr h 85 (Int32.toNatClampNeg 4) (((h 85 (Int32.toNatClampNeg 4)) * 1103515245) + 12345)) 85 (Int32.toNatClampNeg 0)) + 1) = 0) (bndI (S_226 (((((wr h 85 (Int32.toNatClampNeg 4) (((h 85 (Int32.toNatClampNeg 4)) * 1103515245) + 12345)) 85 (Int32.toNatClampNeg 4)).toUInt32 >>> ((16 : Int32).toUInt32 &&& Int32.toUInt32 31)).toInt32) - ((((wr h 85 (Int32.toNatClampNeg 4) (((h 85 (Int32.toNatClampNeg 4)) * 1103515245) + 12345)) 85 (Int32.toNatClampNeg 4)).toUInt32 >>> ((16 : Int32).toUInt32 &&& Int32.toUInt32 31)).toInt32) / (((wr h 85 (Int32.toNatClampNeg 4) (((h 85 (Int32.toNatClampNeg 4)) * 1103515245) + 12345)) 85 (Int32.toNatClampNeg 0)) + 1) * (((wr h 85 (Int32.toNatClampNeg 4) (((h 85 (Int32.toNatClampNeg 4)) * 1103515245) + 12345)) 85 (Int32.toNatClampNeg 0)) + 1)) ((wr h 85 (Int32.toNatClampNeg 4) (((h 85 (Int32.toNatClampNeg 4)) * 1103515245) + 12345)))) (R_269_42))
set_option maxRecDepth 100000 in
theorem r_269_0 {X : GX} {d : Nat} {r : Int32 × Hp} (hd : 8 ≤ d) (hq : RtX X (some (.int r.1)) r.2) {h : Hp} (e : R_269_0 h = some r) : G X d 269 0 [some (.ref 84)] [] h := by
  unfold R_269_0 at e
  have g := gd_s e; clear e; obtain ⟨⟨b0, b1, n2⟩, e⟩ := g
  obtain ⟨x, h2, e1, e2⟩ := bndI_s e
  refine k_269_0 b0 b1 n2 (by omega) (t_226 e1) ?_
  rintro _ _ ⟨rfl, rfl⟩
  exact r_269_42 hd hq e2
noncomputable def S_269 (h : Hp) : Option (Int32 × Hp) := R_269_0 h
set_option maxRecDepth 100000 in
theorem t_269 {h : Hp} {r : Int32 × Hp} (e : S_269 h = some r) : CI 8 269 [.ref 84] h (fun x g => x = r.1 ∧ g = r.2) := by
  refine C.of mo_269 (Nat.le_of_ble_eq_true rfl) (fun X hq => ?_)
  exact r_269_0 (Nat.le_refl _) (hq _ _ ⟨_, rfl, rfl, rfl⟩) e
/-! 268 PlayedTruthModel.lot()I -/
noncomputable def R_268_16 (s0 : Int32) (h : Hp) : Option (Int32 × Hp) := some (s0, h)
theorem r_268_16 {X : GX} {d : Nat} {r : Int32 × Hp} (hd : 9 ≤ d) (hq : RtX X (some (.int r.1)) r.2) {h : Hp} {s0 : Int32} (e : R_268_16 s0 h = some r) : G X d 268 16 [none] [.int s0] h := by
  unfold R_268_16 at e
  rw [← Option.some.inj e] at hq
  exact k_268_16 hq
noncomputable def R_268_12 (h : Hp) : Option (Int32 × Hp) := bndI (S_269 h) (R_268_16)
theorem r_268_12 {X : GX} {d : Nat} {r : Int32 × Hp} (hd : 9 ≤ d) (hq : RtX X (some (.int r.1)) r.2) {h : Hp} (e : R_268_12 h = some r) : G X d 268 12 [some (.ref 84)] [] h := by
  unfold R_268_12 at e
  obtain ⟨x, h2, e1, e2⟩ := bndI_s e
  refine k_268_12 (by omega) (t_269 e1) ?_
  rintro _ _ ⟨rfl, rfl⟩
  exact r_268_16 hd hq e2
noncomputable def R_268_7 (h : Hp) : Option (Int32 × Hp) := some (((-4)), h)
theorem r_268_7 {X : GX} {d : Nat} {r : Int32 × Hp} (hd : 9 ≤ d) (hq : RtX X (some (.int r.1)) r.2) {h : Hp} (e : R_268_7 h = some r) : G X d 268 7 [none] [] h := by
  unfold R_268_7 at e
  rw [← Option.some.inj e] at hq
  exact k_268_7 hq
noncomputable def R_268_4 (s0 : Int32) (h : Hp) : Option (Int32 × Hp) := if s0 = 0 then R_268_12 h else R_268_7 h
theorem r_268_4 {X : GX} {d : Nat} {r : Int32 × Hp} (hd : 9 ≤ d) (hq : RtX X (some (.int r.1)) r.2) {h : Hp} {s0 : Int32} (e : R_268_4 s0 h = some r) : G X d 268 4 [some (.ref 84)] [.int s0] h := by
  unfold R_268_4 at e
  refine k_268_4 (fun c => ?_) (fun c => ?_)
  · rw [if_pos c] at e; exact r_268_12 hd hq e
  · rw [if_neg c] at e; exact r_268_7 hd hq e
noncomputable def R_268_0 (h : Hp) : Option (Int32 × Hp) := bndI (S_205 h) (R_268_4)
theorem r_268_0 {X : GX} {d : Nat} {r : Int32 × Hp} (hd : 9 ≤ d) (hq : RtX X (some (.int r.1)) r.2) {h : Hp} (e : R_268_0 h = some r) : G X d 268 0 [some (.ref 84)] [] h := by
  unfold R_268_0 at e
  obtain ⟨x, h2, e1, e2⟩ := bndI_s e
  refine k_268_0 (by omega) (t_205 e1) ?_
  rintro _ _ ⟨rfl, rfl⟩
  exact r_268_4 hd hq e2
noncomputable def S_268 (h : Hp) : Option (Int32 × Hp) := R_268_0 h
set_option maxRecDepth 100000 in
theorem t_268 {h : Hp} {r : Int32 × Hp} (e : S_268 h = some r) : CI 9 268 [.ref 84] h (fun x g => x = r.1 ∧ g = r.2) := by
  refine C.of mo_268 (Nat.le_of_ble_eq_true rfl) (fun X hq => ?_)
  exact r_268_0 (Nat.le_refl _) (hq _ _ ⟨_, rfl, rfl, rfl⟩) e
/-! 270 PlayedTruthModel.times(II)I -/
noncomputable def R_270_24 (h : Hp) : Option (Int32 × Hp) := some (((-1)), h)
theorem r_270_24 {X : GX} {d : Nat} {r : Int32 × Hp} (hd : 9 ≤ d) (hq : RtX X (some (.int r.1)) r.2) {h : Hp} (e : R_270_24 h = some r) : G X d 270 24 [none, none, none, none, none, none, none] [] h := by
  unfold R_270_24 at e
  rw [← Option.some.inj e] at hq
  exact k_270_24 hq
noncomputable def R_270_107 (v3 : Int32) (h : Hp) : Option (Int32 × Hp) := some (v3, h)
theorem r_270_107 {X : GX} {d : Nat} {r : Int32 × Hp} (hd : 9 ≤ d) (hq : RtX X (some (.int r.1)) r.2) {h : Hp} {v3 : Int32} (e : R_270_107 v3 h = some r) : G X d 270 107 [none, none, none, some (.int v3), none, none, none] [] h := by
  unfold R_270_107 at e
  rw [← Option.some.inj e] at hq
  exact k_270_107 hq
noncomputable def R_270_103 (v3 : Int32) (h : Hp) : Option (Int32 × Hp) := bndV (S_231 h) (R_270_107 v3)
theorem r_270_103 {X : GX} {d : Nat} {r : Int32 × Hp} (hd : 9 ≤ d) (hq : RtX X (some (.int r.1)) r.2) {h : Hp} {v3 : Int32} (e : R_270_103 v3 h = some r) : G X d 270 103 [some (.ref 84), none, none, some (.int v3), none, none, none] [] h := by
  unfold R_270_103 at e
  obtain ⟨x, h2, e1, e2⟩ := bndV_s e
  refine k_270_103 (by omega) (t_231 e1) ?_
  rintro _ rfl
  exact r_270_107 hd hq e2
noncomputable def R_270_89 (rec_35 : Int32 → Int32 → Int32 → Int32 → Hp → Option (Int32 × Hp)) (v1 : Int32) (v2 : Int32) (v3 : Int32) (v4 : Int32) (v6 : Int32) (h : Hp) : Option (Int32 × Hp) := gd (IA 85 4) (rec_35 v1 v2 v3 (v4 + 1) ((wr h 85 (Int32.toNatClampNeg 4) v6)))
theorem r_270_89 {X : GX} {d : Nat} {r : Int32 × Hp} (hd : 9 ≤ d) (hq : RtX X (some (.int r.1)) r.2) {rec_35 : Int32 → Int32 → Int32 → Int32 → Hp → Option (Int32 × Hp)} (hr_35 : ∀ {v1 : Int32} {v2 : Int32} {v3 : Int32} {v4 : Int32} {h : Hp}, rec_35 v1 v2 v3 v4 h = some r → G X d 270 35 [some (.ref 84), some (.int v1), some (.int v2), some (.int v3), some (.int v4), none, none] [] h) {h : Hp} {v1 : Int32} {v2 : Int32} {v3 : Int32} {v4 : Int32} {v6 : Int32} (e : R_270_89 rec_35 v1 v2 v3 v4 v6 h = some r) : G X d 270 89 [some (.ref 84), some (.int v1), some (.int v2), some (.int v3), some (.int v4), none, some (.int v6)] [] h := by
  unfold R_270_89 at e
  have g := gd_s e; clear e; obtain ⟨b0, e⟩ := g
  exact k_270_89 b0 (hr_35 e)
noncomputable def R_270_74 (rec_35 : Int32 → Int32 → Int32 → Int32 → Hp → Option (Int32 × Hp)) (v1 : Int32) (v2 : Int32) (v4 : Int32) (s0 : Int32) (h : Hp) : Option (Int32 × Hp) := gd (IA 85 4) (bndV (S_232 h) (R_270_89 rec_35 v1 v2 (s0 + 0) v4 (h 85 (Int32.toNatClampNeg 4))))
theorem r_270_74 {X : GX} {d : Nat} {r : Int32 × Hp} (hd : 9 ≤ d) (hq : RtX X (some (.int r.1)) r.2) {rec_35 : Int32 → Int32 → Int32 → Int32 → Hp → Option (Int32 × Hp)} (hr_35 : ∀ {v1 : Int32} {v2 : Int32} {v3 : Int32} {v4 : Int32} {h : Hp}, rec_35 v1 v2 v3 v4 h = some r → G X d 270 35 [some (.ref 84), some (.int v1), some (.int v2), some (.int v3), some (.int v4), none, none] [] h) {h : Hp} {v1 : Int32} {v2 : Int32} {v4 : Int32} {s0 : Int32} (e : R_270_74 rec_35 v1 v2 v4 s0 h = some r) : G X d 270 74 [some (.ref 84), some (.int v1), some (.int v2), none, some (.int v4), none, none] [.int s0] h := by
  unfold R_270_74 at e
  have g := gd_s e; clear e; obtain ⟨b0, e⟩ := g
  obtain ⟨x, h2, e1, e2⟩ := bndV_s e
  refine k_270_74 b0 (by omega) (t_232 e1) ?_
  rintro _ rfl
  exact r_270_89 hd hq hr_35 e2
noncomputable def R_270_70 (rec_35 : Int32 → Int32 → Int32 → Int32 → Hp → Option (Int32 × Hp)) (v1 : Int32) (v2 : Int32) (v4 : Int32) (s0 : Int32) (h : Hp) : Option (Int32 × Hp) := gd (IA 85 4) (bndV (S_232 h) (R_270_89 rec_35 v1 v2 (s0 + 1) v4 (h 85 (Int32.toNatClampNeg 4))))
theorem r_270_70 {X : GX} {d : Nat} {r : Int32 × Hp} (hd : 9 ≤ d) (hq : RtX X (some (.int r.1)) r.2) {rec_35 : Int32 → Int32 → Int32 → Int32 → Hp → Option (Int32 × Hp)} (hr_35 : ∀ {v1 : Int32} {v2 : Int32} {v3 : Int32} {v4 : Int32} {h : Hp}, rec_35 v1 v2 v3 v4 h = some r → G X d 270 35 [some (.ref 84), some (.int v1), some (.int v2), some (.int v3), some (.int v4), none, none] [] h) {h : Hp} {v1 : Int32} {v2 : Int32} {v4 : Int32} {s0 : Int32} (e : R_270_70 rec_35 v1 v2 v4 s0 h = some r) : G X d 270 70 [some (.ref 84), some (.int v1), some (.int v2), none, some (.int v4), none, none] [.int s0] h := by
  unfold R_270_70 at e
  have g := gd_s e; clear e; obtain ⟨b0, e⟩ := g
  obtain ⟨x, h2, e1, e2⟩ := bndV_s e
  refine k_270_70 b0 (by omega) (t_232 e1) ?_
  rintro _ rfl
  exact r_270_89 hd hq hr_35 e2
noncomputable def R_270_63 (rec_35 : Int32 → Int32 → Int32 → Int32 → Hp → Option (Int32 × Hp)) (v1 : Int32) (v2 : Int32) (v3 : Int32) (v4 : Int32) (v5 : Int32) (h : Hp) : Option (Int32 × Hp) := if v5 < v2 then R_270_74 rec_35 v1 v2 v4 v3 h else R_270_70 rec_35 v1 v2 v4 v3 h
theorem r_270_63 {X : GX} {d : Nat} {r : Int32 × Hp} (hd : 9 ≤ d) (hq : RtX X (some (.int r.1)) r.2) {rec_35 : Int32 → Int32 → Int32 → Int32 → Hp → Option (Int32 × Hp)} (hr_35 : ∀ {v1 : Int32} {v2 : Int32} {v3 : Int32} {v4 : Int32} {h : Hp}, rec_35 v1 v2 v3 v4 h = some r → G X d 270 35 [some (.ref 84), some (.int v1), some (.int v2), some (.int v3), some (.int v4), none, none] [] h) {h : Hp} {v1 : Int32} {v2 : Int32} {v3 : Int32} {v4 : Int32} {v5 : Int32} (e : R_270_63 rec_35 v1 v2 v3 v4 v5 h = some r) : G X d 270 63 [some (.ref 84), some (.int v1), some (.int v2), some (.int v3), some (.int v4), some (.int v5), none] [] h := by
  unfold R_270_63 at e
  refine k_270_63 (fun c => ?_) (fun c => ?_)
  · rw [if_pos c] at e; exact r_270_74 hd hq hr_35 e
  · rw [if_neg c] at e; exact r_270_70 hd hq hr_35 e
noncomputable def R_270_57 (rec_35 : Int32 → Int32 → Int32 → Int32 → Hp → Option (Int32 × Hp)) (rec_44 : Int32 → Int32 → Int32 → Int32 → Int32 → Hp → Option (Int32 × Hp)) (v1 : Int32) (v2 : Int32) (v3 : Int32) (v4 : Int32) (s1 : Int32) (s0 : Int32) (h : Hp) : Option (Int32 × Hp) := rec_44 v1 v2 v3 v4 (s1 + s0) h
theorem r_270_57 {X : GX} {d : Nat} {r : Int32 × Hp} (hd : 9 ≤ d) (hq : RtX X (some (.int r.1)) r.2) {rec_35 : Int32 → Int32 → Int32 → Int32 → Hp → Option (Int32 × Hp)} {rec_44 : Int32 → Int32 → Int32 → Int32 → Int32 → Hp → Option (Int32 × Hp)} (hr_35 : ∀ {v1 : Int32} {v2 : Int32} {v3 : Int32} {v4 : Int32} {h : Hp}, rec_35 v1 v2 v3 v4 h = some r → G X d 270 35 [some (.ref 84), some (.int v1), some (.int v2), some (.int v3), some (.int v4), none, none] [] h) (hr_44 : ∀ {v1 : Int32} {v2 : Int32} {v3 : Int32} {v4 : Int32} {v5 : Int32} {h : Hp}, rec_44 v1 v2 v3 v4 v5 h = some r → G X d 270 44 [some (.ref 84), some (.int v1), some (.int v2), some (.int v3), some (.int v4), some (.int v5), none] [] h) {h : Hp} {v1 : Int32} {v2 : Int32} {v3 : Int32} {v4 : Int32} {s1 : Int32} {s0 : Int32} (e : R_270_57 rec_35 rec_44 v1 v2 v3 v4 s1 s0 h = some r) : G X d 270 57 [some (.ref 84), some (.int v1), some (.int v2), some (.int v3), some (.int v4), none, none] [.int s0, .int s1] h := by
  unfold R_270_57 at e
  exact k_270_57 (hr_44 e)
noncomputable def R_270_51 (rec_35 : Int32 → Int32 → Int32 → Int32 → Hp → Option (Int32 × Hp)) (rec_44 : Int32 → Int32 → Int32 → Int32 → Int32 → Hp → Option (Int32 × Hp)) (v1 : Int32) (v2 : Int32) (v3 : Int32) (v4 : Int32) (v5 : Int32) (h : Hp) : Option (Int32 × Hp) := bndI (S_269 h) (R_270_57 rec_35 rec_44 v1 v2 v3 v4 v5)
theorem r_270_51 {X : GX} {d : Nat} {r : Int32 × Hp} (hd : 9 ≤ d) (hq : RtX X (some (.int r.1)) r.2) {rec_35 : Int32 → Int32 → Int32 → Int32 → Hp → Option (Int32 × Hp)} {rec_44 : Int32 → Int32 → Int32 → Int32 → Int32 → Hp → Option (Int32 × Hp)} (hr_35 : ∀ {v1 : Int32} {v2 : Int32} {v3 : Int32} {v4 : Int32} {h : Hp}, rec_35 v1 v2 v3 v4 h = some r → G X d 270 35 [some (.ref 84), some (.int v1), some (.int v2), some (.int v3), some (.int v4), none, none] [] h) (hr_44 : ∀ {v1 : Int32} {v2 : Int32} {v3 : Int32} {v4 : Int32} {v5 : Int32} {h : Hp}, rec_44 v1 v2 v3 v4 v5 h = some r → G X d 270 44 [some (.ref 84), some (.int v1), some (.int v2), some (.int v3), some (.int v4), some (.int v5), none] [] h) {h : Hp} {v1 : Int32} {v2 : Int32} {v3 : Int32} {v4 : Int32} {v5 : Int32} (e : R_270_51 rec_35 rec_44 v1 v2 v3 v4 v5 h = some r) : G X d 270 51 [some (.ref 84), some (.int v1), some (.int v2), some (.int v3), some (.int v4), some (.int v5), none] [] h := by
  unfold R_270_51 at e
  obtain ⟨x, h2, e1, e2⟩ := bndI_s e
  refine k_270_51 (by omega) (t_269 e1) ?_
  rintro _ _ ⟨rfl, rfl⟩
  exact r_270_57 hd hq hr_35 hr_44 e2
noncomputable def R_270_48 (rec_35 : Int32 → Int32 → Int32 → Int32 → Hp → Option (Int32 × Hp)) (rec_44 : Int32 → Int32 → Int32 → Int32 → Int32 → Hp → Option (Int32 × Hp)) (v1 : Int32) (v2 : Int32) (v3 : Int32) (v4 : Int32) (v5 : Int32) (s0 : Int32) (h : Hp) : Option (Int32 × Hp) := if s0 = 0 then R_270_51 rec_35 rec_44 v1 v2 v3 v4 v5 h else R_270_63 rec_35 v1 v2 v3 v4 v5 h
theorem r_270_48 {X : GX} {d : Nat} {r : Int32 × Hp} (hd : 9 ≤ d) (hq : RtX X (some (.int r.1)) r.2) {rec_35 : Int32 → Int32 → Int32 → Int32 → Hp → Option (Int32 × Hp)} {rec_44 : Int32 → Int32 → Int32 → Int32 → Int32 → Hp → Option (Int32 × Hp)} (hr_35 : ∀ {v1 : Int32} {v2 : Int32} {v3 : Int32} {v4 : Int32} {h : Hp}, rec_35 v1 v2 v3 v4 h = some r → G X d 270 35 [some (.ref 84), some (.int v1), some (.int v2), some (.int v3), some (.int v4), none, none] [] h) (hr_44 : ∀ {v1 : Int32} {v2 : Int32} {v3 : Int32} {v4 : Int32} {v5 : Int32} {h : Hp}, rec_44 v1 v2 v3 v4 v5 h = some r → G X d 270 44 [some (.ref 84), some (.int v1), some (.int v2), some (.int v3), some (.int v4), some (.int v5), none] [] h) {h : Hp} {v1 : Int32} {v2 : Int32} {v3 : Int32} {v4 : Int32} {v5 : Int32} {s0 : Int32} (e : R_270_48 rec_35 rec_44 v1 v2 v3 v4 v5 s0 h = some r) : G X d 270 48 [some (.ref 84), some (.int v1), some (.int v2), some (.int v3), some (.int v4), some (.int v5), none] [.int s0] h := by
  unfold R_270_48 at e
  refine k_270_48 (fun c => ?_) (fun c => ?_)
  · rw [if_neg c] at e; exact r_270_63 hd hq hr_35 e
  · rw [if_pos c] at e; exact r_270_51 hd hq hr_35 hr_44 e
noncomputable def R_270_44 (rec_35 : Int32 → Int32 → Int32 → Int32 → Hp → Option (Int32 × Hp)) (rec_44 : Int32 → Int32 → Int32 → Int32 → Int32 → Hp → Option (Int32 × Hp)) (v1 : Int32) (v2 : Int32) (v3 : Int32) (v4 : Int32) (v5 : Int32) (h : Hp) : Option (Int32 × Hp) := bndI (S_205 h) (R_270_48 rec_35 rec_44 v1 v2 v3 v4 v5)
theorem r_270_44 {X : GX} {d : Nat} {r : Int32 × Hp} (hd : 9 ≤ d) (hq : RtX X (some (.int r.1)) r.2) {rec_35 : Int32 → Int32 → Int32 → Int32 → Hp → Option (Int32 × Hp)} {rec_44 : Int32 → Int32 → Int32 → Int32 → Int32 → Hp → Option (Int32 × Hp)} (hr_35 : ∀ {v1 : Int32} {v2 : Int32} {v3 : Int32} {v4 : Int32} {h : Hp}, rec_35 v1 v2 v3 v4 h = some r → G X d 270 35 [some (.ref 84), some (.int v1), some (.int v2), some (.int v3), some (.int v4), none, none] [] h) (hr_44 : ∀ {v1 : Int32} {v2 : Int32} {v3 : Int32} {v4 : Int32} {v5 : Int32} {h : Hp}, rec_44 v1 v2 v3 v4 v5 h = some r → G X d 270 44 [some (.ref 84), some (.int v1), some (.int v2), some (.int v3), some (.int v4), some (.int v5), none] [] h) {h : Hp} {v1 : Int32} {v2 : Int32} {v3 : Int32} {v4 : Int32} {v5 : Int32} (e : R_270_44 rec_35 rec_44 v1 v2 v3 v4 v5 h = some r) : G X d 270 44 [some (.ref 84), some (.int v1), some (.int v2), some (.int v3), some (.int v4), some (.int v5), none] [] h := by
  unfold R_270_44 at e
  obtain ⟨x, h2, e1, e2⟩ := bndI_s e
  refine k_270_44 (by omega) (t_205 e1) ?_
  rintro _ _ ⟨rfl, rfl⟩
  exact r_270_48 hd hq hr_35 hr_44 e2
noncomputable def H_270_44 (rec_35 : Int32 → Int32 → Int32 → Int32 → Hp → Option (Int32 × Hp)) : Nat → Int32 → Int32 → Int32 → Int32 → Int32 → Hp → Option (Int32 × Hp)
  | 0, _, _, _, _, _, _ => none
  | n + 1, v1, v2, v3, v4, v5, h => R_270_44 rec_35 (H_270_44 rec_35 n) v1 v2 v3 v4 v5 h
theorem h_270_44 {X : GX} {d : Nat} {r : Int32 × Hp} (hd : 9 ≤ d) (hq : RtX X (some (.int r.1)) r.2) {rec_35 : Int32 → Int32 → Int32 → Int32 → Hp → Option (Int32 × Hp)} (hr_35 : ∀ {v1 : Int32} {v2 : Int32} {v3 : Int32} {v4 : Int32} {h : Hp}, rec_35 v1 v2 v3 v4 h = some r → G X d 270 35 [some (.ref 84), some (.int v1), some (.int v2), some (.int v3), some (.int v4), none, none] [] h) {n : Nat} {h : Hp} {v1 : Int32} {v2 : Int32} {v3 : Int32} {v4 : Int32} {v5 : Int32} (e : H_270_44 rec_35 n v1 v2 v3 v4 v5 h = some r) : G X d 270 44 [some (.ref 84), some (.int v1), some (.int v2), some (.int v3), some (.int v4), some (.int v5), none] [] h := by
  induction n generalizing v1 v2 v3 v4 v5 h with
  | zero => cases e
  | succ n ih => exact r_270_44 hd hq hr_35 (fun e => ih e) e
noncomputable def R_270_41 (rec_35 : Int32 → Int32 → Int32 → Int32 → Hp → Option (Int32 × Hp)) (v1 : Int32) (v2 : Int32) (v3 : Int32) (v4 : Int32) (h : Hp) : Option (Int32 × Hp) := H_270_44 rec_35 fuL v1 v2 v3 v4 0 h
theorem r_270_41 {X : GX} {d : Nat} {r : Int32 × Hp} (hd : 9 ≤ d) (hq : RtX X (some (.int r.1)) r.2) {rec_35 : Int32 → Int32 → Int32 → Int32 → Hp → Option (Int32 × Hp)} (hr_35 : ∀ {v1 : Int32} {v2 : Int32} {v3 : Int32} {v4 : Int32} {h : Hp}, rec_35 v1 v2 v3 v4 h = some r → G X d 270 35 [some (.ref 84), some (.int v1), some (.int v2), some (.int v3), some (.int v4), none, none] [] h) {h : Hp} {v1 : Int32} {v2 : Int32} {v3 : Int32} {v4 : Int32} (e : R_270_41 rec_35 v1 v2 v3 v4 h = some r) : G X d 270 41 [some (.ref 84), some (.int v1), some (.int v2), some (.int v3), some (.int v4), none, none] [] h := by
  unfold R_270_41 at e
  exact k_270_41 (h_270_44 hd hq hr_35 e)
noncomputable def R_270_35 (rec_35 : Int32 → Int32 → Int32 → Int32 → Hp → Option (Int32 × Hp)) (v1 : Int32) (v2 : Int32) (v3 : Int32) (v4 : Int32) (h : Hp) : Option (Int32 × Hp) := if v1 ≤ v4 then R_270_103 v3 h else R_270_41 rec_35 v1 v2 v3 v4 h
theorem r_270_35 {X : GX} {d : Nat} {r : Int32 × Hp} (hd : 9 ≤ d) (hq : RtX X (some (.int r.1)) r.2) {rec_35 : Int32 → Int32 → Int32 → Int32 → Hp → Option (Int32 × Hp)} (hr_35 : ∀ {v1 : Int32} {v2 : Int32} {v3 : Int32} {v4 : Int32} {h : Hp}, rec_35 v1 v2 v3 v4 h = some r → G X d 270 35 [some (.ref 84), some (.int v1), some (.int v2), some (.int v3), some (.int v4), none, none] [] h) {h : Hp} {v1 : Int32} {v2 : Int32} {v3 : Int32} {v4 : Int32} (e : R_270_35 rec_35 v1 v2 v3 v4 h = some r) : G X d 270 35 [some (.ref 84), some (.int v1), some (.int v2), some (.int v3), some (.int v4), none, none] [] h := by
  unfold R_270_35 at e
  refine k_270_35 (fun c => ?_) (fun c => ?_)
  · rw [if_pos c] at e; exact r_270_103 hd hq e
  · rw [if_neg c] at e; exact r_270_41 hd hq hr_35 e
noncomputable def H_270_35 : Nat → Int32 → Int32 → Int32 → Int32 → Hp → Option (Int32 × Hp)
  | 0, _, _, _, _, _ => none
  | n + 1, v1, v2, v3, v4, h => R_270_35 (H_270_35 n) v1 v2 v3 v4 h
theorem h_270_35 {X : GX} {d : Nat} {r : Int32 × Hp} (hd : 9 ≤ d) (hq : RtX X (some (.int r.1)) r.2) {n : Nat} {h : Hp} {v1 : Int32} {v2 : Int32} {v3 : Int32} {v4 : Int32} (e : H_270_35 n v1 v2 v3 v4 h = some r) : G X d 270 35 [some (.ref 84), some (.int v1), some (.int v2), some (.int v3), some (.int v4), none, none] [] h := by
  induction n generalizing v1 v2 v3 v4 h with
  | zero => cases e
  | succ n ih => exact r_270_35 hd hq (fun e => ih e) e
noncomputable def R_270_30 (v1 : Int32) (v2 : Int32) (h : Hp) : Option (Int32 × Hp) := H_270_35 fuL v1 v2 0 0 h
theorem r_270_30 {X : GX} {d : Nat} {r : Int32 × Hp} (hd : 9 ≤ d) (hq : RtX X (some (.int r.1)) r.2) {h : Hp} {v1 : Int32} {v2 : Int32} (e : R_270_30 v1 v2 h = some r) : G X d 270 30 [some (.ref 84), some (.int v1), some (.int v2), none, none, none, none] [] h := by
  unfold R_270_30 at e
  exact k_270_30 (h_270_35 hd hq e)
noncomputable def R_270_26 (v1 : Int32) (v2 : Int32) (h : Hp) : Option (Int32 × Hp) := bndV (S_229 h) (R_270_30 v1 v2)
theorem r_270_26 {X : GX} {d : Nat} {r : Int32 × Hp} (hd : 9 ≤ d) (hq : RtX X (some (.int r.1)) r.2) {h : Hp} {v1 : Int32} {v2 : Int32} (e : R_270_26 v1 v2 h = some r) : G X d 270 26 [some (.ref 84), some (.int v1), some (.int v2), none, none, none, none] [] h := by
  unfold R_270_26 at e
  obtain ⟨x, h2, e1, e2⟩ := bndV_s e
  refine k_270_26 (by omega) (t_229 e1) ?_
  rintro _ rfl
  exact r_270_30 hd hq e2
noncomputable def R_270_21 (v1 : Int32) (v2 : Int32) (s0 : Int32) (h : Hp) : Option (Int32 × Hp) := if s0 = 0 then R_270_24 h else R_270_26 v1 v2 h
theorem r_270_21 {X : GX} {d : Nat} {r : Int32 × Hp} (hd : 9 ≤ d) (hq : RtX X (some (.int r.1)) r.2) {h : Hp} {v1 : Int32} {v2 : Int32} {s0 : Int32} (e : R_270_21 v1 v2 s0 h = some r) : G X d 270 21 [some (.ref 84), some (.int v1), some (.int v2), none, none, none, none] [.int s0] h := by
  unfold R_270_21 at e
  refine k_270_21 (fun c => ?_) (fun c => ?_)
  · rw [if_neg c] at e; exact r_270_26 hd hq e
  · rw [if_pos c] at e; exact r_270_24 hd hq e
noncomputable def R_270_12 (v1 : Int32) (v2 : Int32) (h : Hp) : Option (Int32 × Hp) := bndI (S_177 (Int32.toInt64 v2) 0 999 h) (R_270_21 v1 v2)
theorem r_270_12 {X : GX} {d : Nat} {r : Int32 × Hp} (hd : 9 ≤ d) (hq : RtX X (some (.int r.1)) r.2) {h : Hp} {v1 : Int32} {v2 : Int32} (e : R_270_12 v1 v2 h = some r) : G X d 270 12 [some (.ref 84), some (.int v1), some (.int v2), none, none, none, none] [] h := by
  unfold R_270_12 at e
  obtain ⟨x, h2, e1, e2⟩ := bndI_s e
  refine k_270_12 (by omega) (t_177 e1) ?_
  rintro _ _ ⟨rfl, rfl⟩
  exact r_270_21 hd hq e2
noncomputable def R_270_9 (v1 : Int32) (v2 : Int32) (s0 : Int32) (h : Hp) : Option (Int32 × Hp) := if s0 = 0 then R_270_24 h else R_270_12 v1 v2 h
theorem r_270_9 {X : GX} {d : Nat} {r : Int32 × Hp} (hd : 9 ≤ d) (hq : RtX X (some (.int r.1)) r.2) {h : Hp} {v1 : Int32} {v2 : Int32} {s0 : Int32} (e : R_270_9 v1 v2 s0 h = some r) : G X d 270 9 [some (.ref 84), some (.int v1), some (.int v2), none, none, none, none] [.int s0] h := by
  unfold R_270_9 at e
  refine k_270_9 (fun c => ?_) (fun c => ?_)
  · rw [if_pos c] at e; exact r_270_24 hd hq e
  · rw [if_neg c] at e; exact r_270_12 hd hq e
noncomputable def R_270_0 (v1 : Int32) (v2 : Int32) (h : Hp) : Option (Int32 × Hp) := bndI (S_177 (Int32.toInt64 v1) 1 40 h) (R_270_9 v1 v2)
theorem r_270_0 {X : GX} {d : Nat} {r : Int32 × Hp} (hd : 9 ≤ d) (hq : RtX X (some (.int r.1)) r.2) {h : Hp} {v1 : Int32} {v2 : Int32} (e : R_270_0 v1 v2 h = some r) : G X d 270 0 [some (.ref 84), some (.int v1), some (.int v2), none, none, none, none] [] h := by
  unfold R_270_0 at e
  obtain ⟨x, h2, e1, e2⟩ := bndI_s e
  refine k_270_0 (by omega) (t_177 e1) ?_
  rintro _ _ ⟨rfl, rfl⟩
  exact r_270_9 hd hq e2
noncomputable def S_270 (v1 : Int32) (v2 : Int32) (h : Hp) : Option (Int32 × Hp) := R_270_0 v1 v2 h
set_option maxRecDepth 100000 in
theorem t_270 {v1 : Int32} {v2 : Int32} {h : Hp} {r : Int32 × Hp} (e : S_270 v1 v2 h = some r) : CI 9 270 [.ref 84, .int v1, .int v2] h (fun x g => x = r.1 ∧ g = r.2) := by
  refine C.of mo_270 (Nat.le_of_ble_eq_true rfl) (fun X hq => ?_)
  exact r_270_0 (Nat.le_refl _) (hq _ _ ⟨_, rfl, rfl, rfl⟩) e
/-! 271 PlayedTruthModel.prove(I)I -/
noncomputable def R_271_107 (h : Hp) : Option (Int32 × Hp) := some ((h 84 27), h)
theorem r_271_107 {X : GX} {d : Nat} {r : Int32 × Hp} (hd : 9 ≤ d) (hq : RtX X (some (.int r.1)) r.2) {h : Hp} (e : R_271_107 h = some r) : G X d 271 107 [some (.ref 84), none, none] [] h := by
  unfold R_271_107 at e
  rw [← Option.some.inj e] at hq
  exact k_271_107 hq
noncomputable def R_271_103 (h : Hp) : Option (Int32 × Hp) := bndV (S_231 h) (R_271_107)
theorem r_271_103 {X : GX} {d : Nat} {r : Int32 × Hp} (hd : 9 ≤ d) (hq : RtX X (some (.int r.1)) r.2) {h : Hp} (e : R_271_103 h = some r) : G X d 271 103 [some (.ref 84), none, none] [] h := by
  unfold R_271_103 at e
  obtain ⟨x, h2, e1, e2⟩ := bndV_s e
  refine k_271_103 (by omega) (t_231 e1) ?_
  rintro _ rfl
  exact r_271_107 hd hq e2
noncomputable def R_271_96 (rec_41 : Int32 → Hp → Option (Int32 × Hp)) (v2 : Int32) (s1 : Int32) (s2 : Nat) (s0 : Int32) (h : Hp) : Option (Int32 × Hp) := gd (IA s2 s1) (rec_41 (v2 + 1) ((wr h s2 (Int32.toNatClampNeg s1) s0)))
theorem r_271_96 {X : GX} {d : Nat} {r : Int32 × Hp} (hd : 9 ≤ d) (hq : RtX X (some (.int r.1)) r.2) {rec_41 : Int32 → Hp → Option (Int32 × Hp)} (hr_41 : ∀ {v2 : Int32} {h : Hp}, rec_41 v2 h = some r → G X d 271 41 [some (.ref 84), none, some (.int v2)] [] h) {h : Hp} {v2 : Int32} {s1 : Int32} {s2 : Nat} {s0 : Int32} (e : R_271_96 rec_41 v2 s1 s2 s0 h = some r) : G X d 271 96 [some (.ref 84), none, some (.int v2)] [.int s0, .int s1, .ref s2] h := by
  unfold R_271_96 at e
  have g := gd_s e; clear e; obtain ⟨b0, e⟩ := g
  exact k_271_96 b0 (hr_41 e)
noncomputable def R_271_82 (rec_41 : Int32 → Hp → Option (Int32 × Hp)) (v2 : Int32) (s1 : Int32) (s2 : Nat) (s0 : Int32) (h : Hp) : Option (Int32 × Hp) := gd (IA s2 s1) (bndI (S_206 ((wr h s2 (Int32.toNatClampNeg s1) s0))) (R_271_96 rec_41 v2 ((3 * v2) + 2) 93))
theorem r_271_82 {X : GX} {d : Nat} {r : Int32 × Hp} (hd : 9 ≤ d) (hq : RtX X (some (.int r.1)) r.2) {rec_41 : Int32 → Hp → Option (Int32 × Hp)} (hr_41 : ∀ {v2 : Int32} {h : Hp}, rec_41 v2 h = some r → G X d 271 41 [some (.ref 84), none, some (.int v2)] [] h) {h : Hp} {v2 : Int32} {s1 : Int32} {s2 : Nat} {s0 : Int32} (e : R_271_82 rec_41 v2 s1 s2 s0 h = some r) : G X d 271 82 [some (.ref 84), none, some (.int v2)] [.int s0, .int s1, .ref s2] h := by
  unfold R_271_82 at e
  have g := gd_s e; clear e; obtain ⟨b0, e⟩ := g
  obtain ⟨x, h2, e1, e2⟩ := bndI_s e
  refine k_271_82 b0 (by omega) (t_206 e1) ?_
  rintro _ _ ⟨rfl, rfl⟩
  exact r_271_96 hd hq hr_41 e2
noncomputable def R_271_49 (rec_41 : Int32 → Hp → Option (Int32 × Hp)) (v2 : Int32) (h : Hp) : Option (Int32 × Hp) := gd (IA 92 v2 ∧ IA 93 (3 * v2)) (bndI (S_226 ((wr h 93 (Int32.toNatClampNeg (3 * v2)) (h 92 (Int32.toNatClampNeg v2))) 92 (Int32.toNatClampNeg v2)) ((wr h 93 (Int32.toNatClampNeg (3 * v2)) (h 92 (Int32.toNatClampNeg v2))))) (R_271_82 rec_41 v2 ((3 * v2) + 1) 93))
theorem r_271_49 {X : GX} {d : Nat} {r : Int32 × Hp} (hd : 9 ≤ d) (hq : RtX X (some (.int r.1)) r.2) {rec_41 : Int32 → Hp → Option (Int32 × Hp)} (hr_41 : ∀ {v2 : Int32} {h : Hp}, rec_41 v2 h = some r → G X d 271 41 [some (.ref 84), none, some (.int v2)] [] h) {h : Hp} {v2 : Int32} (e : R_271_49 rec_41 v2 h = some r) : G X d 271 49 [some (.ref 84), none, some (.int v2)] [] h := by
  unfold R_271_49 at e
  have g := gd_s e; clear e; obtain ⟨⟨b0, b1⟩, e⟩ := g
  obtain ⟨x, h2, e1, e2⟩ := bndI_s e
  refine k_271_49 b0 b1 (by omega) (t_226 e1) ?_
  rintro _ _ ⟨rfl, rfl⟩
  exact r_271_82 hd hq hr_41 e2
noncomputable def R_271_41 (rec_41 : Int32 → Hp → Option (Int32 × Hp)) (v2 : Int32) (h : Hp) : Option (Int32 × Hp) := if (h 84 27) ≤ v2 then R_271_103 h else R_271_49 rec_41 v2 h
theorem r_271_41 {X : GX} {d : Nat} {r : Int32 × Hp} (hd : 9 ≤ d) (hq : RtX X (some (.int r.1)) r.2) {rec_41 : Int32 → Hp → Option (Int32 × Hp)} (hr_41 : ∀ {v2 : Int32} {h : Hp}, rec_41 v2 h = some r → G X d 271 41 [some (.ref 84), none, some (.int v2)] [] h) {h : Hp} {v2 : Int32} (e : R_271_41 rec_41 v2 h = some r) : G X d 271 41 [some (.ref 84), none, some (.int v2)] [] h := by
  unfold R_271_41 at e
  refine k_271_41 (fun c => ?_) (fun c => ?_)
  · rw [if_pos c] at e; exact r_271_103 hd hq e
  · rw [if_neg c] at e; exact r_271_49 hd hq hr_41 e
noncomputable def H_271_41 : Nat → Int32 → Hp → Option (Int32 × Hp)
  | 0, _, _ => none
  | n + 1, v2, h => R_271_41 (H_271_41 n) v2 h
theorem h_271_41 {X : GX} {d : Nat} {r : Int32 × Hp} (hd : 9 ≤ d) (hq : RtX X (some (.int r.1)) r.2) {n : Nat} {h : Hp} {v2 : Int32} (e : H_271_41 n v2 h = some r) : G X d 271 41 [some (.ref 84), none, some (.int v2)] [] h := by
  induction n generalizing v2 h with
  | zero => cases e
  | succ n ih => exact r_271_41 hd hq (fun e => ih e) e
noncomputable def R_271_39 (h : Hp) : Option (Int32 × Hp) := H_271_41 fuL 0 h
theorem r_271_39 {X : GX} {d : Nat} {r : Int32 × Hp} (hd : 9 ≤ d) (hq : RtX X (some (.int r.1)) r.2) {h : Hp} (e : R_271_39 h = some r) : G X d 271 39 [some (.ref 84), none, none] [] h := by
  unfold R_271_39 at e
  exact k_271_39 (h_271_41 hd hq e)
noncomputable def R_271_35 (h : Hp) : Option (Int32 × Hp) := bndV (S_229 h) (R_271_39)
theorem r_271_35 {X : GX} {d : Nat} {r : Int32 × Hp} (hd : 9 ≤ d) (hq : RtX X (some (.int r.1)) r.2) {h : Hp} (e : R_271_35 h = some r) : G X d 271 35 [some (.ref 84), none, none] [] h := by
  unfold R_271_35 at e
  obtain ⟨x, h2, e1, e2⟩ := bndV_s e
  refine k_271_35 (by omega) (t_229 e1) ?_
  rintro _ rfl
  exact r_271_39 hd hq e2
noncomputable def R_271_20 (s1 : Nat) (s0 : Int32) (h : Hp) : Option (Int32 × Hp) := gd (sh s1 = (1, 9)) (bndV (S_251 ((wr h s1 27 s0) 84 20) ((wr h s1 27 s0) 84 27) ((wr h s1 27 s0))) (R_271_35))
theorem r_271_20 {X : GX} {d : Nat} {r : Int32 × Hp} (hd : 9 ≤ d) (hq : RtX X (some (.int r.1)) r.2) {h : Hp} {s1 : Nat} {s0 : Int32} (e : R_271_20 s1 s0 h = some r) : G X d 271 20 [some (.ref 84), none, none] [.int s0, .ref s1] h := by
  unfold R_271_20 at e
  have g := gd_s e; clear e; obtain ⟨o0, e⟩ := g
  obtain ⟨x, h2, e1, e2⟩ := bndV_s e
  refine k_271_20 o0 (by omega) (t_251 e1) ?_
  rintro _ rfl
  exact r_271_35 hd hq e2
noncomputable def R_271_14 (v1 : Int32) (h : Hp) : Option (Int32 × Hp) := bndI (S_249 v1 h) (R_271_20 84)
theorem r_271_14 {X : GX} {d : Nat} {r : Int32 × Hp} (hd : 9 ≤ d) (hq : RtX X (some (.int r.1)) r.2) {h : Hp} {v1 : Int32} (e : R_271_14 v1 h = some r) : G X d 271 14 [some (.ref 84), some (.int v1), none] [] h := by
  unfold R_271_14 at e
  obtain ⟨x, h2, e1, e2⟩ := bndI_s e
  refine k_271_14 (by omega) (t_249 e1) ?_
  rintro _ _ ⟨rfl, rfl⟩
  exact r_271_20 hd hq e2
noncomputable def R_271_9 (v1 : Int32) (h : Hp) : Option (Int32 × Hp) := bndV (S_248 v1 h) (R_271_14 v1)
theorem r_271_9 {X : GX} {d : Nat} {r : Int32 × Hp} (hd : 9 ≤ d) (hq : RtX X (some (.int r.1)) r.2) {h : Hp} {v1 : Int32} (e : R_271_9 v1 h = some r) : G X d 271 9 [some (.ref 84), some (.int v1), none] [] h := by
  unfold R_271_9 at e
  obtain ⟨x, h2, e1, e2⟩ := bndV_s e
  refine k_271_9 (by omega) (t_248 e1) ?_
  rintro _ rfl
  exact r_271_14 hd hq e2
noncomputable def R_271_7 (h : Hp) : Option (Int32 × Hp) := some (((-1)), h)
theorem r_271_7 {X : GX} {d : Nat} {r : Int32 × Hp} (hd : 9 ≤ d) (hq : RtX X (some (.int r.1)) r.2) {h : Hp} (e : R_271_7 h = some r) : G X d 271 7 [none, none, none] [] h := by
  unfold R_271_7 at e
  rw [← Option.some.inj e] at hq
  exact k_271_7 hq
noncomputable def R_271_4 (v1 : Int32) (s0 : Int32) (h : Hp) : Option (Int32 × Hp) := if s0 = 0 then R_271_7 h else R_271_9 v1 h
theorem r_271_4 {X : GX} {d : Nat} {r : Int32 × Hp} (hd : 9 ≤ d) (hq : RtX X (some (.int r.1)) r.2) {h : Hp} {v1 : Int32} {s0 : Int32} (e : R_271_4 v1 s0 h = some r) : G X d 271 4 [some (.ref 84), some (.int v1), none] [.int s0] h := by
  unfold R_271_4 at e
  refine k_271_4 (fun c => ?_) (fun c => ?_)
  · rw [if_neg c] at e; exact r_271_9 hd hq e
  · rw [if_pos c] at e; exact r_271_7 hd hq e
noncomputable def R_271_0 (v1 : Int32) (h : Hp) : Option (Int32 × Hp) := bndI (S_247 v1 h) (R_271_4 v1)
theorem r_271_0 {X : GX} {d : Nat} {r : Int32 × Hp} (hd : 9 ≤ d) (hq : RtX X (some (.int r.1)) r.2) {h : Hp} {v1 : Int32} (e : R_271_0 v1 h = some r) : G X d 271 0 [some (.ref 84), some (.int v1), none] [] h := by
  unfold R_271_0 at e
  obtain ⟨x, h2, e1, e2⟩ := bndI_s e
  refine k_271_0 (by omega) (t_247 e1) ?_
  rintro _ _ ⟨rfl, rfl⟩
  exact r_271_4 hd hq e2
noncomputable def S_271 (v1 : Int32) (h : Hp) : Option (Int32 × Hp) := R_271_0 v1 h
set_option maxRecDepth 100000 in
theorem t_271 {v1 : Int32} {h : Hp} {r : Int32 × Hp} (e : S_271 v1 h = some r) : CI 9 271 [.ref 84, .int v1] h (fun x g => x = r.1 ∧ g = r.2) := by
  refine C.of mo_271 (Nat.le_of_ble_eq_true rfl) (fun X hq => ?_)
  exact r_271_0 (Nat.le_refl _) (hq _ _ ⟨_, rfl, rfl, rfl⟩) e
/-! 272 PlayedTruthModel.row(II)I -/
noncomputable def R_272_41 (h : Hp) : Option (Int32 × Hp) := some (((-9)), h)
theorem r_272_41 {X : GX} {d : Nat} {r : Int32 × Hp} (hd : 2 ≤ d) (hq : RtX X (some (.int r.1)) r.2) {h : Hp} (e : R_272_41 h = some r) : G X d 272 41 [none, none, none] [] h := by
  unfold R_272_41 at e
  rw [← Option.some.inj e] at hq
  exact k_272_41 hq
noncomputable def R_272_28 (v1 : Int32) (v2 : Int32) (h : Hp) : Option (Int32 × Hp) := gd (IA 93 ((3 * v1) + v2)) (some ((h 93 (Int32.toNatClampNeg ((3 * v1) + v2))), h))
theorem r_272_28 {X : GX} {d : Nat} {r : Int32 × Hp} (hd : 2 ≤ d) (hq : RtX X (some (.int r.1)) r.2) {h : Hp} {v1 : Int32} {v2 : Int32} (e : R_272_28 v1 v2 h = some r) : G X d 272 28 [some (.ref 84), some (.int v1), some (.int v2)] [] h := by
  unfold R_272_28 at e
  have g := gd_s e; clear e; obtain ⟨b0, e⟩ := g
  rw [← Option.some.inj e] at hq
  exact k_272_28 b0 hq
noncomputable def R_272_25 (v1 : Int32) (v2 : Int32) (s0 : Int32) (h : Hp) : Option (Int32 × Hp) := if s0 = 0 then R_272_41 h else R_272_28 v1 v2 h
theorem r_272_25 {X : GX} {d : Nat} {r : Int32 × Hp} (hd : 2 ≤ d) (hq : RtX X (some (.int r.1)) r.2) {h : Hp} {v1 : Int32} {v2 : Int32} {s0 : Int32} (e : R_272_25 v1 v2 s0 h = some r) : G X d 272 25 [some (.ref 84), some (.int v1), some (.int v2)] [.int s0] h := by
  unfold R_272_25 at e
  refine k_272_25 (fun c => ?_) (fun c => ?_)
  · rw [if_pos c] at e; exact r_272_41 hd hq e
  · rw [if_neg c] at e; exact r_272_28 hd hq e
noncomputable def R_272_16 (v1 : Int32) (v2 : Int32) (h : Hp) : Option (Int32 × Hp) := bndI (S_177 (Int32.toInt64 v2) 0 2 h) (R_272_25 v1 v2)
theorem r_272_16 {X : GX} {d : Nat} {r : Int32 × Hp} (hd : 2 ≤ d) (hq : RtX X (some (.int r.1)) r.2) {h : Hp} {v1 : Int32} {v2 : Int32} (e : R_272_16 v1 v2 h = some r) : G X d 272 16 [some (.ref 84), some (.int v1), some (.int v2)] [] h := by
  unfold R_272_16 at e
  obtain ⟨x, h2, e1, e2⟩ := bndI_s e
  refine k_272_16 (by omega) (t_177 e1) ?_
  rintro _ _ ⟨rfl, rfl⟩
  exact r_272_25 hd hq e2
noncomputable def R_272_13 (v1 : Int32) (v2 : Int32) (s0 : Int32) (h : Hp) : Option (Int32 × Hp) := if s0 = 0 then R_272_41 h else R_272_16 v1 v2 h
theorem r_272_13 {X : GX} {d : Nat} {r : Int32 × Hp} (hd : 2 ≤ d) (hq : RtX X (some (.int r.1)) r.2) {h : Hp} {v1 : Int32} {v2 : Int32} {s0 : Int32} (e : R_272_13 v1 v2 s0 h = some r) : G X d 272 13 [some (.ref 84), some (.int v1), some (.int v2)] [.int s0] h := by
  unfold R_272_13 at e
  refine k_272_13 (fun c => ?_) (fun c => ?_)
  · rw [if_pos c] at e; exact r_272_41 hd hq e
  · rw [if_neg c] at e; exact r_272_16 hd hq e
noncomputable def R_272_0 (v1 : Int32) (v2 : Int32) (h : Hp) : Option (Int32 × Hp) := bndI (S_177 (Int32.toInt64 v1) 0 (Int32.toInt64 ((h 84 27) - 1)) h) (R_272_13 v1 v2)
theorem r_272_0 {X : GX} {d : Nat} {r : Int32 × Hp} (hd : 2 ≤ d) (hq : RtX X (some (.int r.1)) r.2) {h : Hp} {v1 : Int32} {v2 : Int32} (e : R_272_0 v1 v2 h = some r) : G X d 272 0 [some (.ref 84), some (.int v1), some (.int v2)] [] h := by
  unfold R_272_0 at e
  obtain ⟨x, h2, e1, e2⟩ := bndI_s e
  refine k_272_0 (by omega) (t_177 e1) ?_
  rintro _ _ ⟨rfl, rfl⟩
  exact r_272_13 hd hq e2
noncomputable def S_272 (v1 : Int32) (v2 : Int32) (h : Hp) : Option (Int32 × Hp) := R_272_0 v1 v2 h
set_option maxRecDepth 100000 in
theorem t_272 {v1 : Int32} {v2 : Int32} {h : Hp} {r : Int32 × Hp} (e : S_272 v1 v2 h = some r) : CI 2 272 [.ref 84, .int v1, .int v2] h (fun x g => x = r.1 ∧ g = r.2) := by
  refine C.of mo_272 (Nat.le_of_ble_eq_true rfl) (fun X hq => ?_)
  exact r_272_0 (Nat.le_refl _) (hq _ _ ⟨_, rfl, rfl, rfl⟩) e
/-! 273 PlayedTruthModel.alterRow(III)I -/
noncomputable def R_273_28 (h : Hp) : Option (Int32 × Hp) := some (((-9)), h)
theorem r_273_28 {X : GX} {d : Nat} {r : Int32 × Hp} (hd : 2 ≤ d) (hq : RtX X (some (.int r.1)) r.2) {h : Hp} (e : R_273_28 h = some r) : G X d 273 28 [none, none, none, none, none] [] h := by
  unfold R_273_28 at e
  rw [← Option.some.inj e] at hq
  exact k_273_28 hq
noncomputable def R_273_31 (v1 : Int32) (v2 : Int32) (v3 : Int32) (h : Hp) : Option (Int32 × Hp) := gd (IA 93 ((3 * v1) + v2)) (some ((h 93 (Int32.toNatClampNeg ((3 * v1) + v2))), (wr h 93 (Int32.toNatClampNeg ((3 * v1) + v2)) v3)))
theorem r_273_31 {X : GX} {d : Nat} {r : Int32 × Hp} (hd : 2 ≤ d) (hq : RtX X (some (.int r.1)) r.2) {h : Hp} {v1 : Int32} {v2 : Int32} {v3 : Int32} (e : R_273_31 v1 v2 v3 h = some r) : G X d 273 31 [some (.ref 84), some (.int v1), some (.int v2), some (.int v3), none] [] h := by
  unfold R_273_31 at e
  have g := gd_s e; clear e; obtain ⟨b0, e⟩ := g
  rw [← Option.some.inj e] at hq
  exact k_273_31 b0 hq
noncomputable def R_273_25 (v1 : Int32) (v2 : Int32) (v3 : Int32) (s0 : Int32) (h : Hp) : Option (Int32 × Hp) := if s0 = 0 then R_273_28 h else R_273_31 v1 v2 v3 h
theorem r_273_25 {X : GX} {d : Nat} {r : Int32 × Hp} (hd : 2 ≤ d) (hq : RtX X (some (.int r.1)) r.2) {h : Hp} {v1 : Int32} {v2 : Int32} {v3 : Int32} {s0 : Int32} (e : R_273_25 v1 v2 v3 s0 h = some r) : G X d 273 25 [some (.ref 84), some (.int v1), some (.int v2), some (.int v3), none] [.int s0] h := by
  unfold R_273_25 at e
  refine k_273_25 (fun c => ?_) (fun c => ?_)
  · rw [if_neg c] at e; exact r_273_31 hd hq e
  · rw [if_pos c] at e; exact r_273_28 hd hq e
noncomputable def R_273_16 (v1 : Int32) (v2 : Int32) (v3 : Int32) (h : Hp) : Option (Int32 × Hp) := bndI (S_177 (Int32.toInt64 v2) 0 2 h) (R_273_25 v1 v2 v3)
theorem r_273_16 {X : GX} {d : Nat} {r : Int32 × Hp} (hd : 2 ≤ d) (hq : RtX X (some (.int r.1)) r.2) {h : Hp} {v1 : Int32} {v2 : Int32} {v3 : Int32} (e : R_273_16 v1 v2 v3 h = some r) : G X d 273 16 [some (.ref 84), some (.int v1), some (.int v2), some (.int v3), none] [] h := by
  unfold R_273_16 at e
  obtain ⟨x, h2, e1, e2⟩ := bndI_s e
  refine k_273_16 (by omega) (t_177 e1) ?_
  rintro _ _ ⟨rfl, rfl⟩
  exact r_273_25 hd hq e2
noncomputable def R_273_13 (v1 : Int32) (v2 : Int32) (v3 : Int32) (s0 : Int32) (h : Hp) : Option (Int32 × Hp) := if s0 = 0 then R_273_28 h else R_273_16 v1 v2 v3 h
theorem r_273_13 {X : GX} {d : Nat} {r : Int32 × Hp} (hd : 2 ≤ d) (hq : RtX X (some (.int r.1)) r.2) {h : Hp} {v1 : Int32} {v2 : Int32} {v3 : Int32} {s0 : Int32} (e : R_273_13 v1 v2 v3 s0 h = some r) : G X d 273 13 [some (.ref 84), some (.int v1), some (.int v2), some (.int v3), none] [.int s0] h := by
  unfold R_273_13 at e
  refine k_273_13 (fun c => ?_) (fun c => ?_)
  · rw [if_pos c] at e; exact r_273_28 hd hq e
  · rw [if_neg c] at e; exact r_273_16 hd hq e
noncomputable def R_273_0 (v1 : Int32) (v2 : Int32) (v3 : Int32) (h : Hp) : Option (Int32 × Hp) := bndI (S_177 (Int32.toInt64 v1) 0 (Int32.toInt64 ((h 84 27) - 1)) h) (R_273_13 v1 v2 v3)
theorem r_273_0 {X : GX} {d : Nat} {r : Int32 × Hp} (hd : 2 ≤ d) (hq : RtX X (some (.int r.1)) r.2) {h : Hp} {v1 : Int32} {v2 : Int32} {v3 : Int32} (e : R_273_0 v1 v2 v3 h = some r) : G X d 273 0 [some (.ref 84), some (.int v1), some (.int v2), some (.int v3), none] [] h := by
  unfold R_273_0 at e
  obtain ⟨x, h2, e1, e2⟩ := bndI_s e
  refine k_273_0 (by omega) (t_177 e1) ?_
  rintro _ _ ⟨rfl, rfl⟩
  exact r_273_13 hd hq e2
noncomputable def S_273 (v1 : Int32) (v2 : Int32) (v3 : Int32) (h : Hp) : Option (Int32 × Hp) := R_273_0 v1 v2 v3 h
set_option maxRecDepth 100000 in
theorem t_273 {v1 : Int32} {v2 : Int32} {v3 : Int32} {h : Hp} {r : Int32 × Hp} (e : S_273 v1 v2 v3 h = some r) : CI 2 273 [.ref 84, .int v1, .int v2, .int v3] h (fun x g => x = r.1 ∧ g = r.2) := by
  refine C.of mo_273 (Nat.le_of_ble_eq_true rfl) (fun X hq => ?_)
  exact r_273_0 (Nat.le_refl _) (hq _ _ ⟨_, rfl, rfl, rfl⟩) e
/-! 274 PlayedTruthModel.judge()I -/
noncomputable def R_274_120 (v1 : Int32) (h : Hp) : Option (Int32 × Hp) := some (v1, h)
theorem r_274_120 {X : GX} {d : Nat} {r : Int32 × Hp} (hd : 8 ≤ d) (hq : RtX X (some (.int r.1)) r.2) {h : Hp} {v1 : Int32} (e : R_274_120 v1 h = some r) : G X d 274 120 [none, some (.int v1), none, none] [] h := by
  unfold R_274_120 at e
  rw [← Option.some.inj e] at hq
  exact k_274_120 hq
noncomputable def R_274_116 (v1 : Int32) (h : Hp) : Option (Int32 × Hp) := bndV (S_231 h) (R_274_120 v1)
theorem r_274_116 {X : GX} {d : Nat} {r : Int32 × Hp} (hd : 8 ≤ d) (hq : RtX X (some (.int r.1)) r.2) {h : Hp} {v1 : Int32} (e : R_274_116 v1 h = some r) : G X d 274 116 [some (.ref 84), some (.int v1), none, none] [] h := by
  unfold R_274_116 at e
  obtain ⟨x, h2, e1, e2⟩ := bndV_s e
  refine k_274_116 (by omega) (t_231 e1) ?_
  rintro _ rfl
  exact r_274_120 hd hq e2
noncomputable def R_274_96 (rec_8 : Int32 → Int32 → Hp → Option (Int32 × Hp)) (v2 : Int32) (h : Hp) : Option (Int32 × Hp) := rec_8 (v2 + 1) (v2 + 1) h
theorem r_274_96 {X : GX} {d : Nat} {r : Int32 × Hp} (hd : 8 ≤ d) (hq : RtX X (some (.int r.1)) r.2) {rec_8 : Int32 → Int32 → Hp → Option (Int32 × Hp)} (hr_8 : ∀ {v1 : Int32} {v2 : Int32} {h : Hp}, rec_8 v1 v2 h = some r → G X d 274 8 [some (.ref 84), some (.int v1), some (.int v2), none] [] h) {h : Hp} {v2 : Int32} (e : R_274_96 rec_8 v2 h = some r) : G X d 274 96 [some (.ref 84), none, some (.int v2), none] [] h := by
  unfold R_274_96 at e
  exact k_274_96 (hr_8 e)
noncomputable def R_274_92 (rec_8 : Int32 → Int32 → Hp → Option (Int32 × Hp)) (v2 : Int32) (h : Hp) : Option (Int32 × Hp) := rec_8 0 (v2 + 1) h
theorem r_274_92 {X : GX} {d : Nat} {r : Int32 × Hp} (hd : 8 ≤ d) (hq : RtX X (some (.int r.1)) r.2) {rec_8 : Int32 → Int32 → Hp → Option (Int32 × Hp)} (hr_8 : ∀ {v1 : Int32} {v2 : Int32} {h : Hp}, rec_8 v1 v2 h = some r → G X d 274 8 [some (.ref 84), some (.int v1), some (.int v2), none] [] h) {h : Hp} {v2 : Int32} (e : R_274_92 rec_8 v2 h = some r) : G X d 274 92 [some (.ref 84), none, some (.int v2), none] [] h := by
  unfold R_274_92 at e
  exact k_274_92 (hr_8 e)
noncomputable def R_274_79 (rec_8 : Int32 → Int32 → Hp → Option (Int32 × Hp)) (v2 : Int32) (s0 : Int32) (h : Hp) : Option (Int32 × Hp) := gd (IA 93 ((3 * v2) + 2)) (if s0 = (h 93 (Int32.toNatClampNeg ((3 * v2) + 2))) then R_274_92 rec_8 v2 h else R_274_96 rec_8 v2 h)
theorem r_274_79 {X : GX} {d : Nat} {r : Int32 × Hp} (hd : 8 ≤ d) (hq : RtX X (some (.int r.1)) r.2) {rec_8 : Int32 → Int32 → Hp → Option (Int32 × Hp)} (hr_8 : ∀ {v1 : Int32} {v2 : Int32} {h : Hp}, rec_8 v1 v2 h = some r → G X d 274 8 [some (.ref 84), some (.int v1), some (.int v2), none] [] h) {h : Hp} {v2 : Int32} {s0 : Int32} (e : R_274_79 rec_8 v2 s0 h = some r) : G X d 274 79 [some (.ref 84), none, some (.int v2), none] [.int s0] h := by
  unfold R_274_79 at e
  have g := gd_s e; clear e; obtain ⟨b0, e⟩ := g
  refine k_274_79 b0 (fun c => ?_) (fun c => ?_)
  · rw [if_neg c] at e; exact r_274_96 hd hq hr_8 e
  · rw [if_pos c] at e; exact r_274_92 hd hq hr_8 e
noncomputable def R_274_75 (rec_8 : Int32 → Int32 → Hp → Option (Int32 × Hp)) (v2 : Int32) (h : Hp) : Option (Int32 × Hp) := bndI (S_206 h) (R_274_79 rec_8 v2)
theorem r_274_75 {X : GX} {d : Nat} {r : Int32 × Hp} (hd : 8 ≤ d) (hq : RtX X (some (.int r.1)) r.2) {rec_8 : Int32 → Int32 → Hp → Option (Int32 × Hp)} (hr_8 : ∀ {v1 : Int32} {v2 : Int32} {h : Hp}, rec_8 v1 v2 h = some r → G X d 274 8 [some (.ref 84), some (.int v1), some (.int v2), none] [] h) {h : Hp} {v2 : Int32} (e : R_274_75 rec_8 v2 h = some r) : G X d 274 75 [some (.ref 84), none, some (.int v2), none] [] h := by
  unfold R_274_75 at e
  obtain ⟨x, h2, e1, e2⟩ := bndI_s e
  refine k_274_75 (by omega) (t_206 e1) ?_
  rintro _ _ ⟨rfl, rfl⟩
  exact r_274_79 hd hq hr_8 e2
noncomputable def R_274_62 (rec_8 : Int32 → Int32 → Hp → Option (Int32 × Hp)) (v2 : Int32) (s0 : Int32) (h : Hp) : Option (Int32 × Hp) := gd (IA 93 ((3 * v2) + 1)) (if s0 = (h 93 (Int32.toNatClampNeg ((3 * v2) + 1))) then R_274_75 rec_8 v2 h else R_274_96 rec_8 v2 h)
theorem r_274_62 {X : GX} {d : Nat} {r : Int32 × Hp} (hd : 8 ≤ d) (hq : RtX X (some (.int r.1)) r.2) {rec_8 : Int32 → Int32 → Hp → Option (Int32 × Hp)} (hr_8 : ∀ {v1 : Int32} {v2 : Int32} {h : Hp}, rec_8 v1 v2 h = some r → G X d 274 8 [some (.ref 84), some (.int v1), some (.int v2), none] [] h) {h : Hp} {v2 : Int32} {s0 : Int32} (e : R_274_62 rec_8 v2 s0 h = some r) : G X d 274 62 [some (.ref 84), none, some (.int v2), none] [.int s0] h := by
  unfold R_274_62 at e
  have g := gd_s e; clear e; obtain ⟨b0, e⟩ := g
  refine k_274_62 b0 (fun c => ?_) (fun c => ?_)
  · rw [if_neg c] at e; exact r_274_96 hd hq hr_8 e
  · rw [if_pos c] at e; exact r_274_75 hd hq hr_8 e
noncomputable def R_274_50 (rec_8 : Int32 → Int32 → Hp → Option (Int32 × Hp)) (v2 : Int32) (h : Hp) : Option (Int32 × Hp) := gd (IA 93 (3 * v2)) (bndI (S_226 (h 93 (Int32.toNatClampNeg (3 * v2))) h) (R_274_62 rec_8 v2))
theorem r_274_50 {X : GX} {d : Nat} {r : Int32 × Hp} (hd : 8 ≤ d) (hq : RtX X (some (.int r.1)) r.2) {rec_8 : Int32 → Int32 → Hp → Option (Int32 × Hp)} (hr_8 : ∀ {v1 : Int32} {v2 : Int32} {h : Hp}, rec_8 v1 v2 h = some r → G X d 274 8 [some (.ref 84), some (.int v1), some (.int v2), none] [] h) {h : Hp} {v2 : Int32} (e : R_274_50 rec_8 v2 h = some r) : G X d 274 50 [some (.ref 84), none, some (.int v2), none] [] h := by
  unfold R_274_50 at e
  have g := gd_s e; clear e; obtain ⟨b0, e⟩ := g
  obtain ⟨x, h2, e1, e2⟩ := bndI_s e
  refine k_274_50 b0 (by omega) (t_226 e1) ?_
  rintro _ _ ⟨rfl, rfl⟩
  exact r_274_62 hd hq hr_8 e2
noncomputable def R_274_47 (rec_8 : Int32 → Int32 → Hp → Option (Int32 × Hp)) (v2 : Int32) (s0 : Int32) (h : Hp) : Option (Int32 × Hp) := if s0 = 0 then R_274_50 rec_8 v2 h else R_274_96 rec_8 v2 h
theorem r_274_47 {X : GX} {d : Nat} {r : Int32 × Hp} (hd : 8 ≤ d) (hq : RtX X (some (.int r.1)) r.2) {rec_8 : Int32 → Int32 → Hp → Option (Int32 × Hp)} (hr_8 : ∀ {v1 : Int32} {v2 : Int32} {h : Hp}, rec_8 v1 v2 h = some r → G X d 274 8 [some (.ref 84), some (.int v1), some (.int v2), none] [] h) {h : Hp} {v2 : Int32} {s0 : Int32} (e : R_274_47 rec_8 v2 s0 h = some r) : G X d 274 47 [some (.ref 84), none, some (.int v2), none] [.int s0] h := by
  unfold R_274_47 at e
  refine k_274_47 (fun c => ?_) (fun c => ?_)
  · rw [if_neg c] at e; exact r_274_96 hd hq hr_8 e
  · rw [if_pos c] at e; exact r_274_50 hd hq hr_8 e
noncomputable def R_274_43 (rec_8 : Int32 → Int32 → Hp → Option (Int32 × Hp)) (v2 : Int32) (h : Hp) : Option (Int32 × Hp) := bndI (S_205 h) (R_274_47 rec_8 v2)
theorem r_274_43 {X : GX} {d : Nat} {r : Int32 × Hp} (hd : 8 ≤ d) (hq : RtX X (some (.int r.1)) r.2) {rec_8 : Int32 → Int32 → Hp → Option (Int32 × Hp)} (hr_8 : ∀ {v1 : Int32} {v2 : Int32} {h : Hp}, rec_8 v1 v2 h = some r → G X d 274 8 [some (.ref 84), some (.int v1), some (.int v2), none] [] h) {h : Hp} {v2 : Int32} (e : R_274_43 rec_8 v2 h = some r) : G X d 274 43 [some (.ref 84), none, some (.int v2), none] [] h := by
  unfold R_274_43 at e
  obtain ⟨x, h2, e1, e2⟩ := bndI_s e
  refine k_274_43 (by omega) (t_205 e1) ?_
  rintro _ _ ⟨rfl, rfl⟩
  exact r_274_47 hd hq hr_8 e2
noncomputable def R_274_40 (rec_8 : Int32 → Int32 → Hp → Option (Int32 × Hp)) (v2 : Int32) (s0 : Int32) (h : Hp) : Option (Int32 × Hp) := if s0 = 0 then R_274_96 rec_8 v2 h else R_274_43 rec_8 v2 h
theorem r_274_40 {X : GX} {d : Nat} {r : Int32 × Hp} (hd : 8 ≤ d) (hq : RtX X (some (.int r.1)) r.2) {rec_8 : Int32 → Int32 → Hp → Option (Int32 × Hp)} (hr_8 : ∀ {v1 : Int32} {v2 : Int32} {h : Hp}, rec_8 v1 v2 h = some r → G X d 274 8 [some (.ref 84), some (.int v1), some (.int v2), none] [] h) {h : Hp} {v2 : Int32} {s0 : Int32} (e : R_274_40 rec_8 v2 s0 h = some r) : G X d 274 40 [some (.ref 84), none, some (.int v2), none] [.int s0] h := by
  unfold R_274_40 at e
  refine k_274_40 (fun c => ?_) (fun c => ?_)
  · rw [if_pos c] at e; exact r_274_96 hd hq hr_8 e
  · rw [if_neg c] at e; exact r_274_43 hd hq hr_8 e
noncomputable def R_274_20 (rec_8 : Int32 → Int32 → Hp → Option (Int32 × Hp)) (v2 : Int32) (h : Hp) : Option (Int32 × Hp) := gd (IA 93 (3 * v2) ∧ IA 85 0) (bndI (S_177 (Int32.toInt64 (h 93 (Int32.toNatClampNeg (3 * v2)))) 0 (Int32.toInt64 (h 85 (Int32.toNatClampNeg 0))) h) (R_274_40 rec_8 v2))
theorem r_274_20 {X : GX} {d : Nat} {r : Int32 × Hp} (hd : 8 ≤ d) (hq : RtX X (some (.int r.1)) r.2) {rec_8 : Int32 → Int32 → Hp → Option (Int32 × Hp)} (hr_8 : ∀ {v1 : Int32} {v2 : Int32} {h : Hp}, rec_8 v1 v2 h = some r → G X d 274 8 [some (.ref 84), some (.int v1), some (.int v2), none] [] h) {h : Hp} {v2 : Int32} (e : R_274_20 rec_8 v2 h = some r) : G X d 274 20 [some (.ref 84), none, some (.int v2), none] [] h := by
  unfold R_274_20 at e
  have g := gd_s e; clear e; obtain ⟨⟨b0, b1⟩, e⟩ := g
  obtain ⟨x, h2, e1, e2⟩ := bndI_s e
  refine k_274_20 b0 b1 (by omega) (t_177 e1) ?_
  rintro _ _ ⟨rfl, rfl⟩
  exact r_274_40 hd hq hr_8 e2
noncomputable def R_274_16 (rec_8 : Int32 → Int32 → Hp → Option (Int32 × Hp)) (v1 : Int32) (v2 : Int32) (h : Hp) : Option (Int32 × Hp) := if v1 = 0 then R_274_20 rec_8 v2 h else R_274_116 v1 h
theorem r_274_16 {X : GX} {d : Nat} {r : Int32 × Hp} (hd : 8 ≤ d) (hq : RtX X (some (.int r.1)) r.2) {rec_8 : Int32 → Int32 → Hp → Option (Int32 × Hp)} (hr_8 : ∀ {v1 : Int32} {v2 : Int32} {h : Hp}, rec_8 v1 v2 h = some r → G X d 274 8 [some (.ref 84), some (.int v1), some (.int v2), none] [] h) {h : Hp} {v1 : Int32} {v2 : Int32} (e : R_274_16 rec_8 v1 v2 h = some r) : G X d 274 16 [some (.ref 84), some (.int v1), some (.int v2), none] [] h := by
  unfold R_274_16 at e
  refine k_274_16 (fun c => ?_) (fun c => ?_)
  · rw [if_neg c] at e; exact r_274_116 hd hq e
  · rw [if_pos c] at e; exact r_274_20 hd hq hr_8 e
noncomputable def R_274_8 (rec_8 : Int32 → Int32 → Hp → Option (Int32 × Hp)) (v1 : Int32) (v2 : Int32) (h : Hp) : Option (Int32 × Hp) := if (h 84 27) ≤ v2 then R_274_116 v1 h else R_274_16 rec_8 v1 v2 h
theorem r_274_8 {X : GX} {d : Nat} {r : Int32 × Hp} (hd : 8 ≤ d) (hq : RtX X (some (.int r.1)) r.2) {rec_8 : Int32 → Int32 → Hp → Option (Int32 × Hp)} (hr_8 : ∀ {v1 : Int32} {v2 : Int32} {h : Hp}, rec_8 v1 v2 h = some r → G X d 274 8 [some (.ref 84), some (.int v1), some (.int v2), none] [] h) {h : Hp} {v1 : Int32} {v2 : Int32} (e : R_274_8 rec_8 v1 v2 h = some r) : G X d 274 8 [some (.ref 84), some (.int v1), some (.int v2), none] [] h := by
  unfold R_274_8 at e
  refine k_274_8 (fun c => ?_) (fun c => ?_)
  · rw [if_pos c] at e; exact r_274_116 hd hq e
  · rw [if_neg c] at e; exact r_274_16 hd hq hr_8 e
noncomputable def H_274_8 : Nat → Int32 → Int32 → Hp → Option (Int32 × Hp)
  | 0, _, _, _ => none
  | n + 1, v1, v2, h => R_274_8 (H_274_8 n) v1 v2 h
theorem h_274_8 {X : GX} {d : Nat} {r : Int32 × Hp} (hd : 8 ≤ d) (hq : RtX X (some (.int r.1)) r.2) {n : Nat} {h : Hp} {v1 : Int32} {v2 : Int32} (e : H_274_8 n v1 v2 h = some r) : G X d 274 8 [some (.ref 84), some (.int v1), some (.int v2), none] [] h := by
  induction n generalizing v1 v2 h with
  | zero => cases e
  | succ n ih => exact r_274_8 hd hq (fun e => ih e) e
noncomputable def R_274_6 (v1 : Int32) (h : Hp) : Option (Int32 × Hp) := H_274_8 fuL v1 0 h
theorem r_274_6 {X : GX} {d : Nat} {r : Int32 × Hp} (hd : 8 ≤ d) (hq : RtX X (some (.int r.1)) r.2) {h : Hp} {v1 : Int32} (e : R_274_6 v1 h = some r) : G X d 274 6 [some (.ref 84), some (.int v1), none, none] [] h := by
  unfold R_274_6 at e
  exact k_274_6 (h_274_8 hd hq e)
noncomputable def R_274_0 (h : Hp) : Option (Int32 × Hp) := bndV (S_229 h) (R_274_6 0)
theorem r_274_0 {X : GX} {d : Nat} {r : Int32 × Hp} (hd : 8 ≤ d) (hq : RtX X (some (.int r.1)) r.2) {h : Hp} (e : R_274_0 h = some r) : G X d 274 0 [some (.ref 84), none, none, none] [] h := by
  unfold R_274_0 at e
  obtain ⟨x, h2, e1, e2⟩ := bndV_s e
  refine k_274_0 (by omega) (t_229 e1) ?_
  rintro _ rfl
  exact r_274_6 hd hq e2
noncomputable def S_274 (h : Hp) : Option (Int32 × Hp) := R_274_0 h
set_option maxRecDepth 100000 in
theorem t_274 {h : Hp} {r : Int32 × Hp} (e : S_274 h = some r) : CI 8 274 [.ref 84] h (fun x g => x = r.1 ∧ g = r.2) := by
  refine C.of mo_274 (Nat.le_of_ble_eq_true rfl) (fun X hq => ?_)
  exact r_274_0 (Nat.le_refl _) (hq _ _ ⟨_, rfl, rfl, rfl⟩) e
/-! 276 PlayedTruthModel.isSheet(I)Z -/
noncomputable def R_276_9 (s0 : Int32) (h : Hp) : Option (Int32 × Hp) := gd (s0 = 0 ∨ s0 = 1) (some (s0, h))
theorem r_276_9 {X : GX} {d : Nat} {r : Int32 × Hp} (hd : 2 ≤ d) (hq : RtX X (some (.int r.1)) r.2) {h : Hp} {s0 : Int32} (e : R_276_9 s0 h = some r) : G X d 276 9 [none] [.int s0] h := by
  unfold R_276_9 at e
  have g := gd_s e; clear e; obtain ⟨z0, e⟩ := g
  rw [← Option.some.inj e] at hq
  exact k_276_9 z0 hq
noncomputable def R_276_0 (v0 : Int32) (h : Hp) : Option (Int32 × Hp) := bndI (S_177 (Int32.toInt64 v0) 0 3 h) (R_276_9)
theorem r_276_0 {X : GX} {d : Nat} {r : Int32 × Hp} (hd : 2 ≤ d) (hq : RtX X (some (.int r.1)) r.2) {h : Hp} {v0 : Int32} (e : R_276_0 v0 h = some r) : G X d 276 0 [some (.int v0)] [] h := by
  unfold R_276_0 at e
  obtain ⟨x, h2, e1, e2⟩ := bndI_s e
  refine k_276_0 (by omega) (t_177 e1) ?_
  rintro _ _ ⟨rfl, rfl⟩
  exact r_276_9 hd hq e2
noncomputable def S_276 (v0 : Int32) (h : Hp) : Option (Int32 × Hp) := R_276_0 v0 h
set_option maxRecDepth 100000 in
theorem t_276 {v0 : Int32} {h : Hp} {r : Int32 × Hp} (e : S_276 v0 h = some r) : CI 2 276 [.int v0] h (fun x g => x = r.1 ∧ g = r.2) := by
  refine C.of mo_276 (Nat.le_of_ble_eq_true rfl) (fun X hq => ?_)
  exact r_276_0 (Nat.le_refl _) (hq _ _ ⟨_, rfl, rfl, rfl⟩) e
/-! 275 PlayedTruthModel.sheet(III)I -/
noncomputable def R_275_31 (h : Hp) : Option (Int32 × Hp) := some (((-1)), h)
theorem r_275_31 {X : GX} {d : Nat} {r : Int32 × Hp} (hd : 3 ≤ d) (hq : RtX X (some (.int r.1)) r.2) {h : Hp} (e : R_275_31 h = some r) : G X d 275 31 [none, none, none, none, none] [] h := by
  unfold R_275_31 at e
  rw [← Option.some.inj e] at hq
  exact k_275_31 hq
noncomputable def R_275_97 (h : Hp) : Option (Int32 × Hp) := some (1, h)
theorem r_275_97 {X : GX} {d : Nat} {r : Int32 × Hp} (hd : 3 ≤ d) (hq : RtX X (some (.int r.1)) r.2) {h : Hp} (e : R_275_97 h = some r) : G X d 275 97 [none, none, none, none, none] [] h := by
  unfold R_275_97 at e
  rw [← Option.some.inj e] at hq
  exact k_275_97 hq
noncomputable def R_275_78 (rec_71 : Int32 → Int32 → Hp → Option (Int32 × Hp)) (v1 : Int32) (v4 : Int32) (h : Hp) : Option (Int32 × Hp) := gd (IA 96 ((40 * v1) + v4)) (rec_71 v1 (v4 + 1) ((wr h 96 (Int32.toNatClampNeg ((40 * v1) + v4)) 0)))
theorem r_275_78 {X : GX} {d : Nat} {r : Int32 × Hp} (hd : 3 ≤ d) (hq : RtX X (some (.int r.1)) r.2) {rec_71 : Int32 → Int32 → Hp → Option (Int32 × Hp)} (hr_71 : ∀ {v1 : Int32} {v4 : Int32} {h : Hp}, rec_71 v1 v4 h = some r → G X d 275 71 [some (.ref 84), some (.int v1), none, none, some (.int v4)] [] h) {h : Hp} {v1 : Int32} {v4 : Int32} (e : R_275_78 rec_71 v1 v4 h = some r) : G X d 275 78 [some (.ref 84), some (.int v1), none, none, some (.int v4)] [] h := by
  unfold R_275_78 at e
  have g := gd_s e; clear e; obtain ⟨b0, e⟩ := g
  exact k_275_78 b0 (hr_71 e)
noncomputable def R_275_71 (rec_71 : Int32 → Int32 → Hp → Option (Int32 × Hp)) (v1 : Int32) (v4 : Int32) (h : Hp) : Option (Int32 × Hp) := if 40 ≤ v4 then R_275_97 h else R_275_78 rec_71 v1 v4 h
theorem r_275_71 {X : GX} {d : Nat} {r : Int32 × Hp} (hd : 3 ≤ d) (hq : RtX X (some (.int r.1)) r.2) {rec_71 : Int32 → Int32 → Hp → Option (Int32 × Hp)} (hr_71 : ∀ {v1 : Int32} {v4 : Int32} {h : Hp}, rec_71 v1 v4 h = some r → G X d 275 71 [some (.ref 84), some (.int v1), none, none, some (.int v4)] [] h) {h : Hp} {v1 : Int32} {v4 : Int32} (e : R_275_71 rec_71 v1 v4 h = some r) : G X d 275 71 [some (.ref 84), some (.int v1), none, none, some (.int v4)] [] h := by
  unfold R_275_71 at e
  refine k_275_71 (fun c => ?_) (fun c => ?_)
  · rw [if_pos c] at e; exact r_275_97 hd hq e
  · rw [if_neg c] at e; exact r_275_78 hd hq hr_71 e
noncomputable def H_275_71 : Nat → Int32 → Int32 → Hp → Option (Int32 × Hp)
  | 0, _, _, _ => none
  | n + 1, v1, v4, h => R_275_71 (H_275_71 n) v1 v4 h
theorem h_275_71 {X : GX} {d : Nat} {r : Int32 × Hp} (hd : 3 ≤ d) (hq : RtX X (some (.int r.1)) r.2) {n : Nat} {h : Hp} {v1 : Int32} {v4 : Int32} (e : H_275_71 n v1 v4 h = some r) : G X d 275 71 [some (.ref 84), some (.int v1), none, none, some (.int v4)] [] h := by
  induction n generalizing v1 v4 h with
  | zero => cases e
  | succ n ih => exact r_275_71 hd hq (fun e => ih e) e
noncomputable def R_275_66 (v1 : Int32) (v3 : Int32) (s1 : Nat) (s0 : Int32) (h : Hp) : Option (Int32 × Hp) := gd (IA s1 s0) (H_275_71 fuL v1 0 ((wr h s1 (Int32.toNatClampNeg s0) v3)))
theorem r_275_66 {X : GX} {d : Nat} {r : Int32 × Hp} (hd : 3 ≤ d) (hq : RtX X (some (.int r.1)) r.2) {h : Hp} {v1 : Int32} {v3 : Int32} {s1 : Nat} {s0 : Int32} (e : R_275_66 v1 v3 s1 s0 h = some r) : G X d 275 66 [some (.ref 84), some (.int v1), none, some (.int v3), none] [.int s0, .ref s1] h := by
  unfold R_275_66 at e
  have g := gd_s e; clear e; obtain ⟨b0, e⟩ := g
  exact k_275_66 b0 (h_275_71 hd hq e)
noncomputable def R_275_62 (v1 : Int32) (s1 : Nat) (s0 : Int32) (h : Hp) : Option (Int32 × Hp) := gd (IA s1 s0) (H_275_71 fuL v1 0 ((wr h s1 (Int32.toNatClampNeg s0) 0)))
theorem r_275_62 {X : GX} {d : Nat} {r : Int32 × Hp} (hd : 3 ≤ d) (hq : RtX X (some (.int r.1)) r.2) {h : Hp} {v1 : Int32} {s1 : Nat} {s0 : Int32} (e : R_275_62 v1 s1 s0 h = some r) : G X d 275 62 [some (.ref 84), some (.int v1), none, none, none] [.int s0, .ref s1] h := by
  unfold R_275_62 at e
  have g := gd_s e; clear e; obtain ⟨b0, e⟩ := g
  exact k_275_62 b0 (h_275_71 hd hq e)
noncomputable def R_275_44 (v1 : Int32) (v2 : Int32) (v3 : Int32) (h : Hp) : Option (Int32 × Hp) := gd (IA 94 v1) (if 0 ≤ v2 then R_275_66 v1 v3 95 v1 ((wr h 94 (Int32.toNatClampNeg v1) (v2 + 1))) else R_275_62 v1 95 v1 ((wr h 94 (Int32.toNatClampNeg v1) (v2 + 1))))
theorem r_275_44 {X : GX} {d : Nat} {r : Int32 × Hp} (hd : 3 ≤ d) (hq : RtX X (some (.int r.1)) r.2) {h : Hp} {v1 : Int32} {v2 : Int32} {v3 : Int32} (e : R_275_44 v1 v2 v3 h = some r) : G X d 275 44 [some (.ref 84), some (.int v1), some (.int v2), some (.int v3), none] [] h := by
  unfold R_275_44 at e
  have g := gd_s e; clear e; obtain ⟨b0, e⟩ := g
  refine k_275_44 b0 (fun c => ?_) (fun c => ?_)
  · rw [if_pos c] at e; exact r_275_66 hd hq e
  · rw [if_neg c] at e; exact r_275_62 hd hq e
noncomputable def R_275_41 (h : Hp) : Option (Int32 × Hp) := some (((-14)), h)
theorem r_275_41 {X : GX} {d : Nat} {r : Int32 × Hp} (hd : 3 ≤ d) (hq : RtX X (some (.int r.1)) r.2) {h : Hp} (e : R_275_41 h = some r) : G X d 275 41 [none, none, none, none, none] [] h := by
  unfold R_275_41 at e
  rw [← Option.some.inj e] at hq
  exact k_275_41 hq
noncomputable def R_275_37 (v1 : Int32) (v2 : Int32) (v3 : Int32) (h : Hp) : Option (Int32 × Hp) := if 0 ≤ v3 then R_275_44 v1 v2 v3 h else R_275_41 h
theorem r_275_37 {X : GX} {d : Nat} {r : Int32 × Hp} (hd : 3 ≤ d) (hq : RtX X (some (.int r.1)) r.2) {h : Hp} {v1 : Int32} {v2 : Int32} {v3 : Int32} (e : R_275_37 v1 v2 v3 h = some r) : G X d 275 37 [some (.ref 84), some (.int v1), some (.int v2), some (.int v3), none] [] h := by
  unfold R_275_37 at e
  refine k_275_37 (fun c => ?_) (fun c => ?_)
  · rw [if_pos c] at e; exact r_275_44 hd hq e
  · rw [if_neg c] at e; exact r_275_41 hd hq e
noncomputable def R_275_33 (v1 : Int32) (v2 : Int32) (v3 : Int32) (h : Hp) : Option (Int32 × Hp) := if v2 < 0 then R_275_44 v1 v2 v3 h else R_275_37 v1 v2 v3 h
theorem r_275_33 {X : GX} {d : Nat} {r : Int32 × Hp} (hd : 3 ≤ d) (hq : RtX X (some (.int r.1)) r.2) {h : Hp} {v1 : Int32} {v2 : Int32} {v3 : Int32} (e : R_275_33 v1 v2 v3 h = some r) : G X d 275 33 [some (.ref 84), some (.int v1), some (.int v2), some (.int v3), none] [] h := by
  unfold R_275_33 at e
  refine k_275_33 (fun c => ?_) (fun c => ?_)
  · rw [if_pos c] at e; exact r_275_44 hd hq e
  · rw [if_neg c] at e; exact r_275_37 hd hq e
noncomputable def R_275_25 (v1 : Int32) (v2 : Int32) (v3 : Int32) (h : Hp) : Option (Int32 × Hp) := if v3 ≤ 40 then R_275_33 v1 v2 v3 h else R_275_31 h
theorem r_275_25 {X : GX} {d : Nat} {r : Int32 × Hp} (hd : 3 ≤ d) (hq : RtX X (some (.int r.1)) r.2) {h : Hp} {v1 : Int32} {v2 : Int32} {v3 : Int32} (e : R_275_25 v1 v2 v3 h = some r) : G X d 275 25 [some (.ref 84), some (.int v1), some (.int v2), some (.int v3), none] [] h := by
  unfold R_275_25 at e
  refine k_275_25 (fun c => ?_) (fun c => ?_)
  · rw [if_pos c] at e; exact r_275_33 hd hq e
  · rw [if_neg c] at e; exact r_275_31 hd hq e
noncomputable def R_275_21 (v1 : Int32) (v2 : Int32) (v3 : Int32) (h : Hp) : Option (Int32 × Hp) := if v2 < 0 then R_275_33 v1 v2 v3 h else R_275_25 v1 v2 v3 h
theorem r_275_21 {X : GX} {d : Nat} {r : Int32 × Hp} (hd : 3 ≤ d) (hq : RtX X (some (.int r.1)) r.2) {h : Hp} {v1 : Int32} {v2 : Int32} {v3 : Int32} (e : R_275_21 v1 v2 v3 h = some r) : G X d 275 21 [some (.ref 84), some (.int v1), some (.int v2), some (.int v3), none] [] h := by
  unfold R_275_21 at e
  refine k_275_21 (fun c => ?_) (fun c => ?_)
  · rw [if_pos c] at e; exact r_275_33 hd hq e
  · rw [if_neg c] at e; exact r_275_25 hd hq e
noncomputable def R_275_18 (v1 : Int32) (v2 : Int32) (v3 : Int32) (s0 : Int32) (h : Hp) : Option (Int32 × Hp) := if s0 = 0 then R_275_31 h else R_275_21 v1 v2 v3 h
theorem r_275_18 {X : GX} {d : Nat} {r : Int32 × Hp} (hd : 3 ≤ d) (hq : RtX X (some (.int r.1)) r.2) {h : Hp} {v1 : Int32} {v2 : Int32} {v3 : Int32} {s0 : Int32} (e : R_275_18 v1 v2 v3 s0 h = some r) : G X d 275 18 [some (.ref 84), some (.int v1), some (.int v2), some (.int v3), none] [.int s0] h := by
  unfold R_275_18 at e
  refine k_275_18 (fun c => ?_) (fun c => ?_)
  · rw [if_pos c] at e; exact r_275_31 hd hq e
  · rw [if_neg c] at e; exact r_275_21 hd hq e
noncomputable def R_275_7 (v1 : Int32) (v2 : Int32) (v3 : Int32) (h : Hp) : Option (Int32 × Hp) := bndI (S_177 (Int32.toInt64 v2) ((-1)) 4 h) (R_275_18 v1 v2 v3)
theorem r_275_7 {X : GX} {d : Nat} {r : Int32 × Hp} (hd : 3 ≤ d) (hq : RtX X (some (.int r.1)) r.2) {h : Hp} {v1 : Int32} {v2 : Int32} {v3 : Int32} (e : R_275_7 v1 v2 v3 h = some r) : G X d 275 7 [some (.ref 84), some (.int v1), some (.int v2), some (.int v3), none] [] h := by
  unfold R_275_7 at e
  obtain ⟨x, h2, e1, e2⟩ := bndI_s e
  refine k_275_7 (by omega) (t_177 e1) ?_
  rintro _ _ ⟨rfl, rfl⟩
  exact r_275_18 hd hq e2
noncomputable def R_275_4 (v1 : Int32) (v2 : Int32) (v3 : Int32) (s0 : Int32) (h : Hp) : Option (Int32 × Hp) := if s0 = 0 then R_275_31 h else R_275_7 v1 v2 v3 h
theorem r_275_4 {X : GX} {d : Nat} {r : Int32 × Hp} (hd : 3 ≤ d) (hq : RtX X (some (.int r.1)) r.2) {h : Hp} {v1 : Int32} {v2 : Int32} {v3 : Int32} {s0 : Int32} (e : R_275_4 v1 v2 v3 s0 h = some r) : G X d 275 4 [some (.ref 84), some (.int v1), some (.int v2), some (.int v3), none] [.int s0] h := by
  unfold R_275_4 at e
  refine k_275_4 (fun c => ?_) (fun c => ?_)
  · rw [if_pos c] at e; exact r_275_31 hd hq e
  · rw [if_neg c] at e; exact r_275_7 hd hq e
noncomputable def R_275_0 (v1 : Int32) (v2 : Int32) (v3 : Int32) (h : Hp) : Option (Int32 × Hp) := bndI (S_276 v1 h) (R_275_4 v1 v2 v3)
theorem r_275_0 {X : GX} {d : Nat} {r : Int32 × Hp} (hd : 3 ≤ d) (hq : RtX X (some (.int r.1)) r.2) {h : Hp} {v1 : Int32} {v2 : Int32} {v3 : Int32} (e : R_275_0 v1 v2 v3 h = some r) : G X d 275 0 [some (.ref 84), some (.int v1), some (.int v2), some (.int v3), none] [] h := by
  unfold R_275_0 at e
  obtain ⟨x, h2, e1, e2⟩ := bndI_s e
  refine k_275_0 (by omega) (t_276 e1) ?_
  rintro _ _ ⟨rfl, rfl⟩
  exact r_275_4 hd hq e2
noncomputable def S_275 (v1 : Int32) (v2 : Int32) (v3 : Int32) (h : Hp) : Option (Int32 × Hp) := R_275_0 v1 v2 v3 h
set_option maxRecDepth 100000 in
theorem t_275 {v1 : Int32} {v2 : Int32} {v3 : Int32} {h : Hp} {r : Int32 × Hp} (e : S_275 v1 v2 v3 h = some r) : CI 3 275 [.ref 84, .int v1, .int v2, .int v3] h (fun x g => x = r.1 ∧ g = r.2) := by
  refine C.of mo_275 (Nat.le_of_ble_eq_true rfl) (fun X hq => ?_)
  exact r_275_0 (Nat.le_refl _) (hq _ _ ⟨_, rfl, rfl, rfl⟩) e
/-! 277 PlayedTruthModel.write(III)I -/
noncomputable def R_277_100 (v3 : Int32) (s1 : Nat) (s0 : Int32) (h : Hp) : Option (Int32 × Hp) := gd (IA s1 s0) (some (1, (wr h s1 (Int32.toNatClampNeg s0) v3)))
theorem r_277_100 {X : GX} {d : Nat} {r : Int32 × Hp} (hd : 3 ≤ d) (hq : RtX X (some (.int r.1)) r.2) {h : Hp} {v3 : Int32} {s1 : Nat} {s0 : Int32} (e : R_277_100 v3 s1 s0 h = some r) : G X d 277 100 [none, none, none, some (.int v3), none] [.int s0, .ref s1] h := by
  unfold R_277_100 at e
  have g := gd_s e; clear e; obtain ⟨b0, e⟩ := g
  rw [← Option.some.inj e] at hq
  exact k_277_100 b0 hq
noncomputable def R_277_96 (s1 : Nat) (s0 : Int32) (h : Hp) : Option (Int32 × Hp) := gd (IA s1 s0) (some (1, (wr h s1 (Int32.toNatClampNeg s0) 1)))
theorem r_277_96 {X : GX} {d : Nat} {r : Int32 × Hp} (hd : 3 ≤ d) (hq : RtX X (some (.int r.1)) r.2) {h : Hp} {s1 : Nat} {s0 : Int32} (e : R_277_96 s1 s0 h = some r) : G X d 277 96 [none, none, none, none, none] [.int s0, .ref s1] h := by
  unfold R_277_96 at e
  have g := gd_s e; clear e; obtain ⟨b0, e⟩ := g
  rw [← Option.some.inj e] at hq
  exact k_277_96 b0 hq
noncomputable def R_277_92 (s1 : Nat) (s0 : Int32) (h : Hp) : Option (Int32 × Hp) := gd (IA s1 s0) (some (1, (wr h s1 (Int32.toNatClampNeg s0) 0)))
theorem r_277_92 {X : GX} {d : Nat} {r : Int32 × Hp} (hd : 3 ≤ d) (hq : RtX X (some (.int r.1)) r.2) {h : Hp} {s1 : Nat} {s0 : Int32} (e : R_277_92 s1 s0 h = some r) : G X d 277 92 [none, none, none, none, none] [.int s0, .ref s1] h := by
  unfold R_277_92 at e
  have g := gd_s e; clear e; obtain ⟨b0, e⟩ := g
  rw [← Option.some.inj e] at hq
  exact k_277_92 b0 hq
noncomputable def R_277_88 (v3 : Int32) (s1 : Nat) (s0 : Int32) (h : Hp) : Option (Int32 × Hp) := if v3 = 0 then R_277_92 s1 s0 h else R_277_96 s1 s0 h
theorem r_277_88 {X : GX} {d : Nat} {r : Int32 × Hp} (hd : 3 ≤ d) (hq : RtX X (some (.int r.1)) r.2) {h : Hp} {v3 : Int32} {s1 : Nat} {s0 : Int32} (e : R_277_88 v3 s1 s0 h = some r) : G X d 277 88 [none, none, none, some (.int v3), none] [.int s0, .ref s1] h := by
  unfold R_277_88 at e
  refine k_277_88 (fun c => ?_) (fun c => ?_)
  · rw [if_neg c] at e; exact r_277_96 hd hq e
  · rw [if_pos c] at e; exact r_277_92 hd hq e
noncomputable def R_277_82 (v3 : Int32) (v4 : Int32) (s1 : Nat) (s0 : Int32) (h : Hp) : Option (Int32 × Hp) := if v4 = 5 then R_277_88 v3 s1 s0 h else R_277_100 v3 s1 s0 h
theorem r_277_82 {X : GX} {d : Nat} {r : Int32 × Hp} (hd : 3 ≤ d) (hq : RtX X (some (.int r.1)) r.2) {h : Hp} {v3 : Int32} {v4 : Int32} {s1 : Nat} {s0 : Int32} (e : R_277_82 v3 v4 s1 s0 h = some r) : G X d 277 82 [none, none, none, some (.int v3), some (.int v4)] [.int s0, .ref s1] h := by
  unfold R_277_82 at e
  refine k_277_82 (fun c => ?_) (fun c => ?_)
  · rw [if_neg c] at e; exact r_277_100 hd hq e
  · rw [if_pos c] at e; exact r_277_88 hd hq e
noncomputable def R_277_77 (v3 : Int32) (s1 : Nat) (s0 : Int32) (h : Hp) : Option (Int32 × Hp) := gd (IA s1 s0) (some (1, (wr h s1 (Int32.toNatClampNeg s0) ((Int32.toInt16 v3).toInt32))))
theorem r_277_77 {X : GX} {d : Nat} {r : Int32 × Hp} (hd : 3 ≤ d) (hq : RtX X (some (.int r.1)) r.2) {h : Hp} {v3 : Int32} {s1 : Nat} {s0 : Int32} (e : R_277_77 v3 s1 s0 h = some r) : G X d 277 77 [none, none, none, some (.int v3), none] [.int s0, .ref s1] h := by
  unfold R_277_77 at e
  have g := gd_s e; clear e; obtain ⟨b0, e⟩ := g
  rw [← Option.some.inj e] at hq
  exact k_277_77 b0 hq
noncomputable def R_277_71 (v3 : Int32) (v4 : Int32) (s1 : Nat) (s0 : Int32) (h : Hp) : Option (Int32 × Hp) := if v4 = 2 then R_277_77 v3 s1 s0 h else R_277_82 v3 v4 s1 s0 h
theorem r_277_71 {X : GX} {d : Nat} {r : Int32 × Hp} (hd : 3 ≤ d) (hq : RtX X (some (.int r.1)) r.2) {h : Hp} {v3 : Int32} {v4 : Int32} {s1 : Nat} {s0 : Int32} (e : R_277_71 v3 v4 s1 s0 h = some r) : G X d 277 71 [none, none, none, some (.int v3), some (.int v4)] [.int s0, .ref s1] h := by
  unfold R_277_71 at e
  refine k_277_71 (fun c => ?_) (fun c => ?_)
  · rw [if_neg c] at e; exact r_277_82 hd hq e
  · rw [if_pos c] at e; exact r_277_77 hd hq e
noncomputable def R_277_66 (v3 : Int32) (s1 : Nat) (s0 : Int32) (h : Hp) : Option (Int32 × Hp) := gd (IA s1 s0) (some (1, (wr h s1 (Int32.toNatClampNeg s0) ((Int32.toInt8 v3).toInt32))))
theorem r_277_66 {X : GX} {d : Nat} {r : Int32 × Hp} (hd : 3 ≤ d) (hq : RtX X (some (.int r.1)) r.2) {h : Hp} {v3 : Int32} {s1 : Nat} {s0 : Int32} (e : R_277_66 v3 s1 s0 h = some r) : G X d 277 66 [none, none, none, some (.int v3), none] [.int s0, .ref s1] h := by
  unfold R_277_66 at e
  have g := gd_s e; clear e; obtain ⟨b0, e⟩ := g
  rw [← Option.some.inj e] at hq
  exact k_277_66 b0 hq
noncomputable def R_277_42 (v1 : Int32) (v2 : Int32) (v3 : Int32) (h : Hp) : Option (Int32 × Hp) := gd (IA 94 v1) (if (h 94 (Int32.toNatClampNeg v1)) = 1 then R_277_66 v3 96 ((40 * v1) + v2) h else R_277_71 v3 (h 94 (Int32.toNatClampNeg v1)) 96 ((40 * v1) + v2) h)
theorem r_277_42 {X : GX} {d : Nat} {r : Int32 × Hp} (hd : 3 ≤ d) (hq : RtX X (some (.int r.1)) r.2) {h : Hp} {v1 : Int32} {v2 : Int32} {v3 : Int32} (e : R_277_42 v1 v2 v3 h = some r) : G X d 277 42 [some (.ref 84), some (.int v1), some (.int v2), some (.int v3), none] [] h := by
  unfold R_277_42 at e
  have g := gd_s e; clear e; obtain ⟨b0, e⟩ := g
  refine k_277_42 b0 (fun c => ?_) (fun c => ?_)
  · rw [if_neg c] at e; exact r_277_71 hd hq e
  · rw [if_pos c] at e; exact r_277_66 hd hq e
noncomputable def R_277_39 (h : Hp) : Option (Int32 × Hp) := some (((-12)), h)
theorem r_277_39 {X : GX} {d : Nat} {r : Int32 × Hp} (hd : 3 ≤ d) (hq : RtX X (some (.int r.1)) r.2) {h : Hp} (e : R_277_39 h = some r) : G X d 277 39 [none, none, none, none, none] [] h := by
  unfold R_277_39 at e
  rw [← Option.some.inj e] at hq
  exact k_277_39 hq
noncomputable def R_277_36 (v1 : Int32) (v2 : Int32) (v3 : Int32) (s0 : Int32) (h : Hp) : Option (Int32 × Hp) := if s0 = 0 then R_277_39 h else R_277_42 v1 v2 v3 h
theorem r_277_36 {X : GX} {d : Nat} {r : Int32 × Hp} (hd : 3 ≤ d) (hq : RtX X (some (.int r.1)) r.2) {h : Hp} {v1 : Int32} {v2 : Int32} {v3 : Int32} {s0 : Int32} (e : R_277_36 v1 v2 v3 s0 h = some r) : G X d 277 36 [some (.ref 84), some (.int v1), some (.int v2), some (.int v3), none] [.int s0] h := by
  unfold R_277_36 at e
  refine k_277_36 (fun c => ?_) (fun c => ?_)
  · rw [if_neg c] at e; exact r_277_42 hd hq e
  · rw [if_pos c] at e; exact r_277_39 hd hq e
noncomputable def R_277_21 (v1 : Int32) (v2 : Int32) (v3 : Int32) (h : Hp) : Option (Int32 × Hp) := gd (IA 95 v1) (bndI (S_177 (Int32.toInt64 v2) 0 (Int32.toInt64 ((h 95 (Int32.toNatClampNeg v1)) - 1)) h) (R_277_36 v1 v2 v3))
theorem r_277_21 {X : GX} {d : Nat} {r : Int32 × Hp} (hd : 3 ≤ d) (hq : RtX X (some (.int r.1)) r.2) {h : Hp} {v1 : Int32} {v2 : Int32} {v3 : Int32} (e : R_277_21 v1 v2 v3 h = some r) : G X d 277 21 [some (.ref 84), some (.int v1), some (.int v2), some (.int v3), none] [] h := by
  unfold R_277_21 at e
  have g := gd_s e; clear e; obtain ⟨b0, e⟩ := g
  obtain ⟨x, h2, e1, e2⟩ := bndI_s e
  refine k_277_21 b0 (by omega) (t_177 e1) ?_
  rintro _ _ ⟨rfl, rfl⟩
  exact r_277_36 hd hq e2
noncomputable def R_277_18 (h : Hp) : Option (Int32 × Hp) := some (((-11)), h)
theorem r_277_18 {X : GX} {d : Nat} {r : Int32 × Hp} (hd : 3 ≤ d) (hq : RtX X (some (.int r.1)) r.2) {h : Hp} (e : R_277_18 h = some r) : G X d 277 18 [none, none, none, none, none] [] h := by
  unfold R_277_18 at e
  rw [← Option.some.inj e] at hq
  exact k_277_18 hq
noncomputable def R_277_9 (v1 : Int32) (v2 : Int32) (v3 : Int32) (h : Hp) : Option (Int32 × Hp) := gd (IA 94 v1) (if (h 94 (Int32.toNatClampNeg v1)) = 0 then R_277_18 h else R_277_21 v1 v2 v3 h)
theorem r_277_9 {X : GX} {d : Nat} {r : Int32 × Hp} (hd : 3 ≤ d) (hq : RtX X (some (.int r.1)) r.2) {h : Hp} {v1 : Int32} {v2 : Int32} {v3 : Int32} (e : R_277_9 v1 v2 v3 h = some r) : G X d 277 9 [some (.ref 84), some (.int v1), some (.int v2), some (.int v3), none] [] h := by
  unfold R_277_9 at e
  have g := gd_s e; clear e; obtain ⟨b0, e⟩ := g
  refine k_277_9 b0 (fun c => ?_) (fun c => ?_)
  · rw [if_neg c] at e; exact r_277_21 hd hq e
  · rw [if_pos c] at e; exact r_277_18 hd hq e
noncomputable def R_277_7 (h : Hp) : Option (Int32 × Hp) := some (((-1)), h)
theorem r_277_7 {X : GX} {d : Nat} {r : Int32 × Hp} (hd : 3 ≤ d) (hq : RtX X (some (.int r.1)) r.2) {h : Hp} (e : R_277_7 h = some r) : G X d 277 7 [none, none, none, none, none] [] h := by
  unfold R_277_7 at e
  rw [← Option.some.inj e] at hq
  exact k_277_7 hq
noncomputable def R_277_4 (v1 : Int32) (v2 : Int32) (v3 : Int32) (s0 : Int32) (h : Hp) : Option (Int32 × Hp) := if s0 = 0 then R_277_7 h else R_277_9 v1 v2 v3 h
theorem r_277_4 {X : GX} {d : Nat} {r : Int32 × Hp} (hd : 3 ≤ d) (hq : RtX X (some (.int r.1)) r.2) {h : Hp} {v1 : Int32} {v2 : Int32} {v3 : Int32} {s0 : Int32} (e : R_277_4 v1 v2 v3 s0 h = some r) : G X d 277 4 [some (.ref 84), some (.int v1), some (.int v2), some (.int v3), none] [.int s0] h := by
  unfold R_277_4 at e
  refine k_277_4 (fun c => ?_) (fun c => ?_)
  · rw [if_neg c] at e; exact r_277_9 hd hq e
  · rw [if_pos c] at e; exact r_277_7 hd hq e
noncomputable def R_277_0 (v1 : Int32) (v2 : Int32) (v3 : Int32) (h : Hp) : Option (Int32 × Hp) := bndI (S_276 v1 h) (R_277_4 v1 v2 v3)
theorem r_277_0 {X : GX} {d : Nat} {r : Int32 × Hp} (hd : 3 ≤ d) (hq : RtX X (some (.int r.1)) r.2) {h : Hp} {v1 : Int32} {v2 : Int32} {v3 : Int32} (e : R_277_0 v1 v2 v3 h = some r) : G X d 277 0 [some (.ref 84), some (.int v1), some (.int v2), some (.int v3), none] [] h := by
  unfold R_277_0 at e
  obtain ⟨x, h2, e1, e2⟩ := bndI_s e
  refine k_277_0 (by omega) (t_276 e1) ?_
  rintro _ _ ⟨rfl, rfl⟩
  exact r_277_4 hd hq e2
noncomputable def S_277 (v1 : Int32) (v2 : Int32) (v3 : Int32) (h : Hp) : Option (Int32 × Hp) := R_277_0 v1 v2 v3 h
set_option maxRecDepth 100000 in
theorem t_277 {v1 : Int32} {v2 : Int32} {v3 : Int32} {h : Hp} {r : Int32 × Hp} (e : S_277 v1 v2 v3 h = some r) : CI 3 277 [.ref 84, .int v1, .int v2, .int v3] h (fun x g => x = r.1 ∧ g = r.2) := by
  refine C.of mo_277 (Nat.le_of_ble_eq_true rfl) (fun X hq => ?_)
  exact r_277_0 (Nat.le_refl _) (hq _ _ ⟨_, rfl, rfl, rfl⟩) e
