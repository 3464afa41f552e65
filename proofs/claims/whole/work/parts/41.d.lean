/-! part 41.d: by program (wip/whole/sem.py) -/
/-! 131 PlayedTruth$Strangers.countFit(III)V -/
noncomputable def R_131_19 (v1 : Int32) (v2 : Int32) (v3 : Int32) (h : Hp) : Option (Int32 × Hp) := some (0, (wr (wr (wr h 16 6 v1) 16 7 v2) 16 8 v3))
theorem r_131_19 {X : GX} {d : Nat} {r : Int32 × Hp} (hd : 1 ≤ d) (hq : RtX X none r.2) {h : Hp} {v1 : Int32} {v2 : Int32} {v3 : Int32} (e : R_131_19 v1 v2 v3 h = some r) : G X d 131 19 [some (.ref 16), some (.int v1), some (.int v2), some (.int v3)] [] h := by
  unfold R_131_19 at e
  rw [← Option.some.inj e] at hq
  exact k_131_19 hq
noncomputable def R_131_18 (h : Hp) : Option (Int32 × Hp) := some (0, h)
theorem r_131_18 {X : GX} {d : Nat} {r : Int32 × Hp} (hd : 1 ≤ d) (hq : RtX X none r.2) {h : Hp} (e : R_131_18 h = some r) : G X d 131 18 [none, none, none, none] [] h := by
  unfold R_131_18 at e
  rw [← Option.some.inj e] at hq
  exact k_131_18 hq
noncomputable def R_131_0 (v1 : Int32) (v2 : Int32) (v3 : Int32) (h : Hp) : Option (Int32 × Hp) := if ((wr h 16 5 ((h 16 5) + 1)) 16 5) ≤ 1 then R_131_19 v1 v2 v3 ((wr h 16 5 ((h 16 5) + 1))) else R_131_18 ((wr h 16 5 ((h 16 5) + 1)))
theorem r_131_0 {X : GX} {d : Nat} {r : Int32 × Hp} (hd : 1 ≤ d) (hq : RtX X none r.2) {h : Hp} {v1 : Int32} {v2 : Int32} {v3 : Int32} (e : R_131_0 v1 v2 v3 h = some r) : G X d 131 0 [some (.ref 16), some (.int v1), some (.int v2), some (.int v3)] [] h := by
  unfold R_131_0 at e
  refine k_131_0 (fun c => ?_) (fun c => ?_)
  · rw [if_pos c] at e; exact r_131_19 hd hq e
  · rw [if_neg c] at e; exact r_131_18 hd hq e
noncomputable def S_131 (v1 : Int32) (v2 : Int32) (v3 : Int32) (h : Hp) : Option (Int32 × Hp) := R_131_0 v1 v2 v3 h
set_option maxRecDepth 100000 in
theorem t_131 {v1 : Int32} {v2 : Int32} {v3 : Int32} {h : Hp} {r : Int32 × Hp} (e : S_131 v1 v2 v3 h = some r) : CV 1 131 [.ref 16, .int v1, .int v2, .int v3] h (fun g => g = r.2) := by
  refine C.of mo_131 (Nat.le_of_ble_eq_true rfl) (fun X hq => ?_)
  exact r_131_0 (Nat.le_refl _) (hq _ _ ⟨rfl, rfl⟩) e
/-! 127 PlayedTruth$Strangers.lookForFits(LPlayedTruth$Stage;)V -/
noncomputable def R_127_107 (h : Hp) : Option (Int32 × Hp) := some (0, h)
theorem r_127_107 {X : GX} {d : Nat} {r : Int32 × Hp} (hd : 3 ≤ d) (hq : RtX X none r.2) {h : Hp} (e : R_127_107 h = some r) : G X d 127 107 [none, none, none, none, none, none, none] [] h := by
  unfold R_127_107 at e
  rw [← Option.some.inj e] at hq
  exact k_127_107 hq
noncomputable def R_127_101 (rec_17 : Nat → Int32 → Int32 → Hp → Option (Int32 × Hp)) (v1 : Nat) (v2 : Int32) (v3 : Int32) (h : Hp) : Option (Int32 × Hp) := rec_17 v1 v2 (v3 + 1) h
theorem r_127_101 {X : GX} {d : Nat} {r : Int32 × Hp} (hd : 3 ≤ d) (hq : RtX X none r.2) {rec_17 : Nat → Int32 → Int32 → Hp → Option (Int32 × Hp)} (hr_17 : ∀ {v1 : Nat} {v2 : Int32} {v3 : Int32} {h : Hp}, rec_17 v1 v2 v3 h = some r → G X d 127 17 [some (.ref 16), some (.ref v1), some (.int v2), some (.int v3), none, none, none] [] h) {h : Hp} {v1 : Nat} {v2 : Int32} {v3 : Int32} (e : R_127_101 rec_17 v1 v2 v3 h = some r) : G X d 127 101 [some (.ref 16), some (.ref v1), some (.int v2), some (.int v3), none, none, none] [] h := by
  unfold R_127_101 at e
  exact k_127_101 (hr_17 e)
noncomputable def R_127_95 (rec_17 : Nat → Int32 → Int32 → Hp → Option (Int32 × Hp)) (rec_25 : Nat → Int32 → Int32 → Int32 → Hp → Option (Int32 × Hp)) (v1 : Nat) (v2 : Int32) (v3 : Int32) (v4 : Int32) (h : Hp) : Option (Int32 × Hp) := rec_25 v1 v2 v3 (v4 + 1) h
theorem r_127_95 {X : GX} {d : Nat} {r : Int32 × Hp} (hd : 3 ≤ d) (hq : RtX X none r.2) {rec_17 : Nat → Int32 → Int32 → Hp → Option (Int32 × Hp)} {rec_25 : Nat → Int32 → Int32 → Int32 → Hp → Option (Int32 × Hp)} (hr_17 : ∀ {v1 : Nat} {v2 : Int32} {v3 : Int32} {h : Hp}, rec_17 v1 v2 v3 h = some r → G X d 127 17 [some (.ref 16), some (.ref v1), some (.int v2), some (.int v3), none, none, none] [] h) (hr_25 : ∀ {v1 : Nat} {v2 : Int32} {v3 : Int32} {v4 : Int32} {h : Hp}, rec_25 v1 v2 v3 v4 h = some r → G X d 127 25 [some (.ref 16), some (.ref v1), some (.int v2), some (.int v3), some (.int v4), none, none] [] h) {h : Hp} {v1 : Nat} {v2 : Int32} {v3 : Int32} {v4 : Int32} (e : R_127_95 rec_17 rec_25 v1 v2 v3 v4 h = some r) : G X d 127 95 [some (.ref 16), some (.ref v1), some (.int v2), some (.int v3), some (.int v4), none, none] [] h := by
  unfold R_127_95 at e
  exact k_127_95 (hr_25 e)
noncomputable def R_127_89 (rec_17 : Nat → Int32 → Int32 → Hp → Option (Int32 × Hp)) (rec_25 : Nat → Int32 → Int32 → Int32 → Hp → Option (Int32 × Hp)) (rec_35 : Nat → Int32 → Int32 → Int32 → Int32 → Hp → Option (Int32 × Hp)) (v1 : Nat) (v2 : Int32) (v3 : Int32) (v4 : Int32) (v5 : Int32) (h : Hp) : Option (Int32 × Hp) := rec_35 v1 v2 v3 v4 (v5 + 6) h
theorem r_127_89 {X : GX} {d : Nat} {r : Int32 × Hp} (hd : 3 ≤ d) (hq : RtX X none r.2) {rec_17 : Nat → Int32 → Int32 → Hp → Option (Int32 × Hp)} {rec_25 : Nat → Int32 → Int32 → Int32 → Hp → Option (Int32 × Hp)} {rec_35 : Nat → Int32 → Int32 → Int32 → Int32 → Hp → Option (Int32 × Hp)} (hr_17 : ∀ {v1 : Nat} {v2 : Int32} {v3 : Int32} {h : Hp}, rec_17 v1 v2 v3 h = some r → G X d 127 17 [some (.ref 16), some (.ref v1), some (.int v2), some (.int v3), none, none, none] [] h) (hr_25 : ∀ {v1 : Nat} {v2 : Int32} {v3 : Int32} {v4 : Int32} {h : Hp}, rec_25 v1 v2 v3 v4 h = some r → G X d 127 25 [some (.ref 16), some (.ref v1), some (.int v2), some (.int v3), some (.int v4), none, none] [] h) (hr_35 : ∀ {v1 : Nat} {v2 : Int32} {v3 : Int32} {v4 : Int32} {v5 : Int32} {h : Hp}, rec_35 v1 v2 v3 v4 v5 h = some r → G X d 127 35 [some (.ref 16), some (.ref v1), some (.int v2), some (.int v3), some (.int v4), some (.int v5), none] [] h) {h : Hp} {v1 : Nat} {v2 : Int32} {v3 : Int32} {v4 : Int32} {v5 : Int32} (e : R_127_89 rec_17 rec_25 rec_35 v1 v2 v3 v4 v5 h = some r) : G X d 127 89 [some (.ref 16), some (.ref v1), some (.int v2), some (.int v3), some (.int v4), some (.int v5), none] [] h := by
  unfold R_127_89 at e
  exact k_127_89 (hr_35 e)
noncomputable def R_127_78 (rec_17 : Nat → Int32 → Int32 → Hp → Option (Int32 × Hp)) (rec_25 : Nat → Int32 → Int32 → Int32 → Hp → Option (Int32 × Hp)) (rec_35 : Nat → Int32 → Int32 → Int32 → Int32 → Hp → Option (Int32 × Hp)) (v1 : Nat) (v2 : Int32) (v3 : Int32) (v4 : Int32) (v5 : Int32) (v6 : Int32) (h : Hp) : Option (Int32 × Hp) := rec_35 v1 v2 v3 v4 (v5 + 6) ((wr h 16 9 ((h 16 9) ||| v6)))
theorem r_127_78 {X : GX} {d : Nat} {r : Int32 × Hp} (hd : 3 ≤ d) (hq : RtX X none r.2) {rec_17 : Nat → Int32 → Int32 → Hp → Option (Int32 × Hp)} {rec_25 : Nat → Int32 → Int32 → Int32 → Hp → Option (Int32 × Hp)} {rec_35 : Nat → Int32 → Int32 → Int32 → Int32 → Hp → Option (Int32 × Hp)} (hr_17 : ∀ {v1 : Nat} {v2 : Int32} {v3 : Int32} {h : Hp}, rec_17 v1 v2 v3 h = some r → G X d 127 17 [some (.ref 16), some (.ref v1), some (.int v2), some (.int v3), none, none, none] [] h) (hr_25 : ∀ {v1 : Nat} {v2 : Int32} {v3 : Int32} {v4 : Int32} {h : Hp}, rec_25 v1 v2 v3 v4 h = some r → G X d 127 25 [some (.ref 16), some (.ref v1), some (.int v2), some (.int v3), some (.int v4), none, none] [] h) (hr_35 : ∀ {v1 : Nat} {v2 : Int32} {v3 : Int32} {v4 : Int32} {v5 : Int32} {h : Hp}, rec_35 v1 v2 v3 v4 v5 h = some r → G X d 127 35 [some (.ref 16), some (.ref v1), some (.int v2), some (.int v3), some (.int v4), some (.int v5), none] [] h) {h : Hp} {v1 : Nat} {v2 : Int32} {v3 : Int32} {v4 : Int32} {v5 : Int32} {v6 : Int32} (e : R_127_78 rec_17 rec_25 rec_35 v1 v2 v3 v4 v5 v6 h = some r) : G X d 127 78 [some (.ref 16), some (.ref v1), some (.int v2), some (.int v3), some (.int v4), some (.int v5), some (.int v6)] [] h := by
  unfold R_127_78 at e
  exact k_127_78 (hr_35 e)
noncomputable def R_127_74 (rec_17 : Nat → Int32 → Int32 → Hp → Option (Int32 × Hp)) (rec_25 : Nat → Int32 → Int32 → Int32 → Hp → Option (Int32 × Hp)) (rec_35 : Nat → Int32 → Int32 → Int32 → Int32 → Hp → Option (Int32 × Hp)) (v1 : Nat) (v2 : Int32) (v3 : Int32) (v4 : Int32) (v5 : Int32) (v6 : Int32) (s0 : Int32) (h : Hp) : Option (Int32 × Hp) := if s0 = 1 then R_127_78 rec_17 rec_25 rec_35 v1 v2 v3 v4 v5 v6 h else R_127_89 rec_17 rec_25 rec_35 v1 v2 v3 v4 v5 h
theorem r_127_74 {X : GX} {d : Nat} {r : Int32 × Hp} (hd : 3 ≤ d) (hq : RtX X none r.2) {rec_17 : Nat → Int32 → Int32 → Hp → Option (Int32 × Hp)} {rec_25 : Nat → Int32 → Int32 → Int32 → Hp → Option (Int32 × Hp)} {rec_35 : Nat → Int32 → Int32 → Int32 → Int32 → Hp → Option (Int32 × Hp)} (hr_17 : ∀ {v1 : Nat} {v2 : Int32} {v3 : Int32} {h : Hp}, rec_17 v1 v2 v3 h = some r → G X d 127 17 [some (.ref 16), some (.ref v1), some (.int v2), some (.int v3), none, none, none] [] h) (hr_25 : ∀ {v1 : Nat} {v2 : Int32} {v3 : Int32} {v4 : Int32} {h : Hp}, rec_25 v1 v2 v3 v4 h = some r → G X d 127 25 [some (.ref 16), some (.ref v1), some (.int v2), some (.int v3), some (.int v4), none, none] [] h) (hr_35 : ∀ {v1 : Nat} {v2 : Int32} {v3 : Int32} {v4 : Int32} {v5 : Int32} {h : Hp}, rec_35 v1 v2 v3 v4 v5 h = some r → G X d 127 35 [some (.ref 16), some (.ref v1), some (.int v2), some (.int v3), some (.int v4), some (.int v5), none] [] h) {h : Hp} {v1 : Nat} {v2 : Int32} {v3 : Int32} {v4 : Int32} {v5 : Int32} {v6 : Int32} {s0 : Int32} (e : R_127_74 rec_17 rec_25 rec_35 v1 v2 v3 v4 v5 v6 s0 h = some r) : G X d 127 74 [some (.ref 16), some (.ref v1), some (.int v2), some (.int v3), some (.int v4), some (.int v5), some (.int v6)] [.int s0] h := by
  unfold R_127_74 at e
  refine k_127_74 (fun c => ?_) (fun c => ?_)
  · rw [if_neg c] at e; exact r_127_89 hd hq hr_17 hr_25 hr_35 e
  · rw [if_pos c] at e; exact r_127_78 hd hq hr_17 hr_25 hr_35 e
noncomputable def R_127_69 (rec_17 : Nat → Int32 → Int32 → Hp → Option (Int32 × Hp)) (rec_25 : Nat → Int32 → Int32 → Int32 → Hp → Option (Int32 × Hp)) (rec_35 : Nat → Int32 → Int32 → Int32 → Int32 → Hp → Option (Int32 × Hp)) (v1 : Nat) (v2 : Int32) (v3 : Int32) (v4 : Int32) (v5 : Int32) (v6 : Int32) (h : Hp) : Option (Int32 × Hp) := bndI (S_105 v6 h) (R_127_74 rec_17 rec_25 rec_35 v1 v2 v3 v4 v5 v6)
theorem r_127_69 {X : GX} {d : Nat} {r : Int32 × Hp} (hd : 3 ≤ d) (hq : RtX X none r.2) {rec_17 : Nat → Int32 → Int32 → Hp → Option (Int32 × Hp)} {rec_25 : Nat → Int32 → Int32 → Int32 → Hp → Option (Int32 × Hp)} {rec_35 : Nat → Int32 → Int32 → Int32 → Int32 → Hp → Option (Int32 × Hp)} (hr_17 : ∀ {v1 : Nat} {v2 : Int32} {v3 : Int32} {h : Hp}, rec_17 v1 v2 v3 h = some r → G X d 127 17 [some (.ref 16), some (.ref v1), some (.int v2), some (.int v3), none, none, none] [] h) (hr_25 : ∀ {v1 : Nat} {v2 : Int32} {v3 : Int32} {v4 : Int32} {h : Hp}, rec_25 v1 v2 v3 v4 h = some r → G X d 127 25 [some (.ref 16), some (.ref v1), some (.int v2), some (.int v3), some (.int v4), none, none] [] h) (hr_35 : ∀ {v1 : Nat} {v2 : Int32} {v3 : Int32} {v4 : Int32} {v5 : Int32} {h : Hp}, rec_35 v1 v2 v3 v4 v5 h = some r → G X d 127 35 [some (.ref 16), some (.ref v1), some (.int v2), some (.int v3), some (.int v4), some (.int v5), none] [] h) {h : Hp} {v1 : Nat} {v2 : Int32} {v3 : Int32} {v4 : Int32} {v5 : Int32} {v6 : Int32} (e : R_127_69 rec_17 rec_25 rec_35 v1 v2 v3 v4 v5 v6 h = some r) : G X d 127 69 [some (.ref 16), some (.ref v1), some (.int v2), some (.int v3), some (.int v4), some (.int v5), some (.int v6)] [] h := by
  unfold R_127_69 at e
  obtain ⟨x, h2, e1, e2⟩ := bndI_s e
  refine k_127_69 (by omega) (t_105 e1) ?_
  rintro _ _ ⟨rfl, rfl⟩
  exact r_127_74 hd hq hr_17 hr_25 hr_35 e2
noncomputable def R_127_60 (rec_17 : Nat → Int32 → Int32 → Hp → Option (Int32 × Hp)) (rec_25 : Nat → Int32 → Int32 → Int32 → Hp → Option (Int32 × Hp)) (rec_35 : Nat → Int32 → Int32 → Int32 → Int32 → Hp → Option (Int32 × Hp)) (v1 : Nat) (v2 : Int32) (v3 : Int32) (v4 : Int32) (v5 : Int32) (v6 : Int32) (h : Hp) : Option (Int32 × Hp) := bndV (S_131 v3 v4 v5 h) (R_127_69 rec_17 rec_25 rec_35 v1 v2 v3 v4 v5 v6)
theorem r_127_60 {X : GX} {d : Nat} {r : Int32 × Hp} (hd : 3 ≤ d) (hq : RtX X none r.2) {rec_17 : Nat → Int32 → Int32 → Hp → Option (Int32 × Hp)} {rec_25 : Nat → Int32 → Int32 → Int32 → Hp → Option (Int32 × Hp)} {rec_35 : Nat → Int32 → Int32 → Int32 → Int32 → Hp → Option (Int32 × Hp)} (hr_17 : ∀ {v1 : Nat} {v2 : Int32} {v3 : Int32} {h : Hp}, rec_17 v1 v2 v3 h = some r → G X d 127 17 [some (.ref 16), some (.ref v1), some (.int v2), some (.int v3), none, none, none] [] h) (hr_25 : ∀ {v1 : Nat} {v2 : Int32} {v3 : Int32} {v4 : Int32} {h : Hp}, rec_25 v1 v2 v3 v4 h = some r → G X d 127 25 [some (.ref 16), some (.ref v1), some (.int v2), some (.int v3), some (.int v4), none, none] [] h) (hr_35 : ∀ {v1 : Nat} {v2 : Int32} {v3 : Int32} {v4 : Int32} {v5 : Int32} {h : Hp}, rec_35 v1 v2 v3 v4 v5 h = some r → G X d 127 35 [some (.ref 16), some (.ref v1), some (.int v2), some (.int v3), some (.int v4), some (.int v5), none] [] h) {h : Hp} {v1 : Nat} {v2 : Int32} {v3 : Int32} {v4 : Int32} {v5 : Int32} {v6 : Int32} (e : R_127_60 rec_17 rec_25 rec_35 v1 v2 v3 v4 v5 v6 h = some r) : G X d 127 60 [some (.ref 16), some (.ref v1), some (.int v2), some (.int v3), some (.int v4), some (.int v5), some (.int v6)] [] h := by
  unfold R_127_60 at e
  obtain ⟨x, h2, e1, e2⟩ := bndV_s e
  refine k_127_60 (by omega) (t_131 e1) ?_
  rintro _ rfl
  exact r_127_69 hd hq hr_17 hr_25 hr_35 e2
noncomputable def R_127_53 (rec_17 : Nat → Int32 → Int32 → Hp → Option (Int32 × Hp)) (rec_25 : Nat → Int32 → Int32 → Int32 → Hp → Option (Int32 × Hp)) (rec_35 : Nat → Int32 → Int32 → Int32 → Int32 → Hp → Option (Int32 × Hp)) (v1 : Nat) (v2 : Int32) (v3 : Int32) (v4 : Int32) (v5 : Int32) (s0 : Int32) (h : Hp) : Option (Int32 × Hp) := if s0 = 0 then R_127_60 rec_17 rec_25 rec_35 v1 v2 v3 v4 v5 s0 h else R_127_69 rec_17 rec_25 rec_35 v1 v2 v3 v4 v5 s0 h
theorem r_127_53 {X : GX} {d : Nat} {r : Int32 × Hp} (hd : 3 ≤ d) (hq : RtX X none r.2) {rec_17 : Nat → Int32 → Int32 → Hp → Option (Int32 × Hp)} {rec_25 : Nat → Int32 → Int32 → Int32 → Hp → Option (Int32 × Hp)} {rec_35 : Nat → Int32 → Int32 → Int32 → Int32 → Hp → Option (Int32 × Hp)} (hr_17 : ∀ {v1 : Nat} {v2 : Int32} {v3 : Int32} {h : Hp}, rec_17 v1 v2 v3 h = some r → G X d 127 17 [some (.ref 16), some (.ref v1), some (.int v2), some (.int v3), none, none, none] [] h) (hr_25 : ∀ {v1 : Nat} {v2 : Int32} {v3 : Int32} {v4 : Int32} {h : Hp}, rec_25 v1 v2 v3 v4 h = some r → G X d 127 25 [some (.ref 16), some (.ref v1), some (.int v2), some (.int v3), some (.int v4), none, none] [] h) (hr_35 : ∀ {v1 : Nat} {v2 : Int32} {v3 : Int32} {v4 : Int32} {v5 : Int32} {h : Hp}, rec_35 v1 v2 v3 v4 v5 h = some r → G X d 127 35 [some (.ref 16), some (.ref v1), some (.int v2), some (.int v3), some (.int v4), some (.int v5), none] [] h) {h : Hp} {v1 : Nat} {v2 : Int32} {v3 : Int32} {v4 : Int32} {v5 : Int32} {s0 : Int32} (e : R_127_53 rec_17 rec_25 rec_35 v1 v2 v3 v4 v5 s0 h = some r) : G X d 127 53 [some (.ref 16), some (.ref v1), some (.int v2), some (.int v3), some (.int v4), some (.int v5), none] [.int s0] h := by
  unfold R_127_53 at e
  refine k_127_53 (fun c => ?_) (fun c => ?_)
  · rw [if_neg c] at e; exact r_127_69 hd hq hr_17 hr_25 hr_35 e
  · rw [if_pos c] at e; exact r_127_60 hd hq hr_17 hr_25 hr_35 e
noncomputable def R_127_42 (rec_17 : Nat → Int32 → Int32 → Hp → Option (Int32 × Hp)) (rec_25 : Nat → Int32 → Int32 → Int32 → Hp → Option (Int32 × Hp)) (rec_35 : Nat → Int32 → Int32 → Int32 → Int32 → Hp → Option (Int32 × Hp)) (v1 : Nat) (v2 : Int32) (v3 : Int32) (v4 : Int32) (v5 : Int32) (h : Hp) : Option (Int32 × Hp) := bndI (S_129 v1 v2 v3 v4 v5 h) (R_127_53 rec_17 rec_25 rec_35 v1 v2 v3 v4 v5)
theorem r_127_42 {X : GX} {d : Nat} {r : Int32 × Hp} (hd : 3 ≤ d) (hq : RtX X none r.2) {rec_17 : Nat → Int32 → Int32 → Hp → Option (Int32 × Hp)} {rec_25 : Nat → Int32 → Int32 → Int32 → Hp → Option (Int32 × Hp)} {rec_35 : Nat → Int32 → Int32 → Int32 → Int32 → Hp → Option (Int32 × Hp)} (hr_17 : ∀ {v1 : Nat} {v2 : Int32} {v3 : Int32} {h : Hp}, rec_17 v1 v2 v3 h = some r → G X d 127 17 [some (.ref 16), some (.ref v1), some (.int v2), some (.int v3), none, none, none] [] h) (hr_25 : ∀ {v1 : Nat} {v2 : Int32} {v3 : Int32} {v4 : Int32} {h : Hp}, rec_25 v1 v2 v3 v4 h = some r → G X d 127 25 [some (.ref 16), some (.ref v1), some (.int v2), some (.int v3), some (.int v4), none, none] [] h) (hr_35 : ∀ {v1 : Nat} {v2 : Int32} {v3 : Int32} {v4 : Int32} {v5 : Int32} {h : Hp}, rec_35 v1 v2 v3 v4 v5 h = some r → G X d 127 35 [some (.ref 16), some (.ref v1), some (.int v2), some (.int v3), some (.int v4), some (.int v5), none] [] h) {h : Hp} {v1 : Nat} {v2 : Int32} {v3 : Int32} {v4 : Int32} {v5 : Int32} (e : R_127_42 rec_17 rec_25 rec_35 v1 v2 v3 v4 v5 h = some r) : G X d 127 42 [some (.ref 16), some (.ref v1), some (.int v2), some (.int v3), some (.int v4), some (.int v5), none] [] h := by
  unfold R_127_42 at e
  obtain ⟨x, h2, e1, e2⟩ := bndI_s e
  refine k_127_42 (by omega) (t_129 e1) ?_
  rintro _ _ ⟨rfl, rfl⟩
  exact r_127_53 hd hq hr_17 hr_25 hr_35 e2
noncomputable def R_127_35 (rec_17 : Nat → Int32 → Int32 → Hp → Option (Int32 × Hp)) (rec_25 : Nat → Int32 → Int32 → Int32 → Hp → Option (Int32 × Hp)) (rec_35 : Nat → Int32 → Int32 → Int32 → Int32 → Hp → Option (Int32 × Hp)) (v1 : Nat) (v2 : Int32) (v3 : Int32) (v4 : Int32) (v5 : Int32) (h : Hp) : Option (Int32 × Hp) := if 54 < v5 then R_127_95 rec_17 rec_25 v1 v2 v3 v4 h else R_127_42 rec_17 rec_25 rec_35 v1 v2 v3 v4 v5 h
theorem r_127_35 {X : GX} {d : Nat} {r : Int32 × Hp} (hd : 3 ≤ d) (hq : RtX X none r.2) {rec_17 : Nat → Int32 → Int32 → Hp → Option (Int32 × Hp)} {rec_25 : Nat → Int32 → Int32 → Int32 → Hp → Option (Int32 × Hp)} {rec_35 : Nat → Int32 → Int32 → Int32 → Int32 → Hp → Option (Int32 × Hp)} (hr_17 : ∀ {v1 : Nat} {v2 : Int32} {v3 : Int32} {h : Hp}, rec_17 v1 v2 v3 h = some r → G X d 127 17 [some (.ref 16), some (.ref v1), some (.int v2), some (.int v3), none, none, none] [] h) (hr_25 : ∀ {v1 : Nat} {v2 : Int32} {v3 : Int32} {v4 : Int32} {h : Hp}, rec_25 v1 v2 v3 v4 h = some r → G X d 127 25 [some (.ref 16), some (.ref v1), some (.int v2), some (.int v3), some (.int v4), none, none] [] h) (hr_35 : ∀ {v1 : Nat} {v2 : Int32} {v3 : Int32} {v4 : Int32} {v5 : Int32} {h : Hp}, rec_35 v1 v2 v3 v4 v5 h = some r → G X d 127 35 [some (.ref 16), some (.ref v1), some (.int v2), some (.int v3), some (.int v4), some (.int v5), none] [] h) {h : Hp} {v1 : Nat} {v2 : Int32} {v3 : Int32} {v4 : Int32} {v5 : Int32} (e : R_127_35 rec_17 rec_25 rec_35 v1 v2 v3 v4 v5 h = some r) : G X d 127 35 [some (.ref 16), some (.ref v1), some (.int v2), some (.int v3), some (.int v4), some (.int v5), none] [] h := by
  unfold R_127_35 at e
  refine k_127_35 (fun c => ?_) (fun c => ?_)
  · rw [if_pos c] at e; exact r_127_95 hd hq hr_17 hr_25 e
  · rw [if_neg c] at e; exact r_127_42 hd hq hr_17 hr_25 hr_35 e
noncomputable def H_127_35 (rec_17 : Nat → Int32 → Int32 → Hp → Option (Int32 × Hp)) (rec_25 : Nat → Int32 → Int32 → Int32 → Hp → Option (Int32 × Hp)) : Nat → Nat → Int32 → Int32 → Int32 → Int32 → Hp → Option (Int32 × Hp)
  | 0, _, _, _, _, _, _ => none
  | n + 1, v1, v2, v3, v4, v5, h => R_127_35 rec_17 rec_25 (H_127_35 rec_17 rec_25 n) v1 v2 v3 v4 v5 h
theorem h_127_35 {X : GX} {d : Nat} {r : Int32 × Hp} (hd : 3 ≤ d) (hq : RtX X none r.2) {rec_17 : Nat → Int32 → Int32 → Hp → Option (Int32 × Hp)} {rec_25 : Nat → Int32 → Int32 → Int32 → Hp → Option (Int32 × Hp)} (hr_17 : ∀ {v1 : Nat} {v2 : Int32} {v3 : Int32} {h : Hp}, rec_17 v1 v2 v3 h = some r → G X d 127 17 [some (.ref 16), some (.ref v1), some (.int v2), some (.int v3), none, none, none] [] h) (hr_25 : ∀ {v1 : Nat} {v2 : Int32} {v3 : Int32} {v4 : Int32} {h : Hp}, rec_25 v1 v2 v3 v4 h = some r → G X d 127 25 [some (.ref 16), some (.ref v1), some (.int v2), some (.int v3), some (.int v4), none, none] [] h) {n : Nat} {h : Hp} {v1 : Nat} {v2 : Int32} {v3 : Int32} {v4 : Int32} {v5 : Int32} (e : H_127_35 rec_17 rec_25 n v1 v2 v3 v4 v5 h = some r) : G X d 127 35 [some (.ref 16), some (.ref v1), some (.int v2), some (.int v3), some (.int v4), some (.int v5), none] [] h := by
  induction n generalizing v1 v2 v3 v4 v5 h with
  | zero => cases e
  | succ n ih => exact r_127_35 hd hq hr_17 hr_25 (fun e => ih e) e
noncomputable def R_127_32 (rec_17 : Nat → Int32 → Int32 → Hp → Option (Int32 × Hp)) (rec_25 : Nat → Int32 → Int32 → Int32 → Hp → Option (Int32 × Hp)) (v1 : Nat) (v2 : Int32) (v3 : Int32) (v4 : Int32) (h : Hp) : Option (Int32 × Hp) := H_127_35 rec_17 rec_25 fuL v1 v2 v3 v4 0 h
theorem r_127_32 {X : GX} {d : Nat} {r : Int32 × Hp} (hd : 3 ≤ d) (hq : RtX X none r.2) {rec_17 : Nat → Int32 → Int32 → Hp → Option (Int32 × Hp)} {rec_25 : Nat → Int32 → Int32 → Int32 → Hp → Option (Int32 × Hp)} (hr_17 : ∀ {v1 : Nat} {v2 : Int32} {v3 : Int32} {h : Hp}, rec_17 v1 v2 v3 h = some r → G X d 127 17 [some (.ref 16), some (.ref v1), some (.int v2), some (.int v3), none, none, none] [] h) (hr_25 : ∀ {v1 : Nat} {v2 : Int32} {v3 : Int32} {v4 : Int32} {h : Hp}, rec_25 v1 v2 v3 v4 h = some r → G X d 127 25 [some (.ref 16), some (.ref v1), some (.int v2), some (.int v3), some (.int v4), none, none] [] h) {h : Hp} {v1 : Nat} {v2 : Int32} {v3 : Int32} {v4 : Int32} (e : R_127_32 rec_17 rec_25 v1 v2 v3 v4 h = some r) : G X d 127 32 [some (.ref 16), some (.ref v1), some (.int v2), some (.int v3), some (.int v4), none, none] [] h := by
  unfold R_127_32 at e
  exact k_127_32 (h_127_35 hd hq hr_17 hr_25 e)
noncomputable def R_127_25 (rec_17 : Nat → Int32 → Int32 → Hp → Option (Int32 × Hp)) (rec_25 : Nat → Int32 → Int32 → Int32 → Hp → Option (Int32 × Hp)) (v1 : Nat) (v2 : Int32) (v3 : Int32) (v4 : Int32) (h : Hp) : Option (Int32 × Hp) := if 9 < v4 then R_127_101 rec_17 v1 v2 v3 h else R_127_32 rec_17 rec_25 v1 v2 v3 v4 h
theorem r_127_25 {X : GX} {d : Nat} {r : Int32 × Hp} (hd : 3 ≤ d) (hq : RtX X none r.2) {rec_17 : Nat → Int32 → Int32 → Hp → Option (Int32 × Hp)} {rec_25 : Nat → Int32 → Int32 → Int32 → Hp → Option (Int32 × Hp)} (hr_17 : ∀ {v1 : Nat} {v2 : Int32} {v3 : Int32} {h : Hp}, rec_17 v1 v2 v3 h = some r → G X d 127 17 [some (.ref 16), some (.ref v1), some (.int v2), some (.int v3), none, none, none] [] h) (hr_25 : ∀ {v1 : Nat} {v2 : Int32} {v3 : Int32} {v4 : Int32} {h : Hp}, rec_25 v1 v2 v3 v4 h = some r → G X d 127 25 [some (.ref 16), some (.ref v1), some (.int v2), some (.int v3), some (.int v4), none, none] [] h) {h : Hp} {v1 : Nat} {v2 : Int32} {v3 : Int32} {v4 : Int32} (e : R_127_25 rec_17 rec_25 v1 v2 v3 v4 h = some r) : G X d 127 25 [some (.ref 16), some (.ref v1), some (.int v2), some (.int v3), some (.int v4), none, none] [] h := by
  unfold R_127_25 at e
  refine k_127_25 (fun c => ?_) (fun c => ?_)
  · rw [if_pos c] at e; exact r_127_101 hd hq hr_17 e
  · rw [if_neg c] at e; exact r_127_32 hd hq hr_17 hr_25 e
noncomputable def H_127_25 (rec_17 : Nat → Int32 → Int32 → Hp → Option (Int32 × Hp)) : Nat → Nat → Int32 → Int32 → Int32 → Hp → Option (Int32 × Hp)
  | 0, _, _, _, _, _ => none
  | n + 1, v1, v2, v3, v4, h => R_127_25 rec_17 (H_127_25 rec_17 n) v1 v2 v3 v4 h
theorem h_127_25 {X : GX} {d : Nat} {r : Int32 × Hp} (hd : 3 ≤ d) (hq : RtX X none r.2) {rec_17 : Nat → Int32 → Int32 → Hp → Option (Int32 × Hp)} (hr_17 : ∀ {v1 : Nat} {v2 : Int32} {v3 : Int32} {h : Hp}, rec_17 v1 v2 v3 h = some r → G X d 127 17 [some (.ref 16), some (.ref v1), some (.int v2), some (.int v3), none, none, none] [] h) {n : Nat} {h : Hp} {v1 : Nat} {v2 : Int32} {v3 : Int32} {v4 : Int32} (e : H_127_25 rec_17 n v1 v2 v3 v4 h = some r) : G X d 127 25 [some (.ref 16), some (.ref v1), some (.int v2), some (.int v3), some (.int v4), none, none] [] h := by
  induction n generalizing v1 v2 v3 v4 h with
  | zero => cases e
  | succ n ih => exact r_127_25 hd hq hr_17 (fun e => ih e) e
noncomputable def R_127_22 (rec_17 : Nat → Int32 → Int32 → Hp → Option (Int32 × Hp)) (v1 : Nat) (v2 : Int32) (v3 : Int32) (h : Hp) : Option (Int32 × Hp) := H_127_25 rec_17 fuL v1 v2 v3 0 h
theorem r_127_22 {X : GX} {d : Nat} {r : Int32 × Hp} (hd : 3 ≤ d) (hq : RtX X none r.2) {rec_17 : Nat → Int32 → Int32 → Hp → Option (Int32 × Hp)} (hr_17 : ∀ {v1 : Nat} {v2 : Int32} {v3 : Int32} {h : Hp}, rec_17 v1 v2 v3 h = some r → G X d 127 17 [some (.ref 16), some (.ref v1), some (.int v2), some (.int v3), none, none, none] [] h) {h : Hp} {v1 : Nat} {v2 : Int32} {v3 : Int32} (e : R_127_22 rec_17 v1 v2 v3 h = some r) : G X d 127 22 [some (.ref 16), some (.ref v1), some (.int v2), some (.int v3), none, none, none] [] h := by
  unfold R_127_22 at e
  exact k_127_22 (h_127_25 hd hq hr_17 e)
noncomputable def R_127_17 (rec_17 : Nat → Int32 → Int32 → Hp → Option (Int32 × Hp)) (v1 : Nat) (v2 : Int32) (v3 : Int32) (h : Hp) : Option (Int32 × Hp) := if 5 < v3 then R_127_107 h else R_127_22 rec_17 v1 v2 v3 h
theorem r_127_17 {X : GX} {d : Nat} {r : Int32 × Hp} (hd : 3 ≤ d) (hq : RtX X none r.2) {rec_17 : Nat → Int32 → Int32 → Hp → Option (Int32 × Hp)} (hr_17 : ∀ {v1 : Nat} {v2 : Int32} {v3 : Int32} {h : Hp}, rec_17 v1 v2 v3 h = some r → G X d 127 17 [some (.ref 16), some (.ref v1), some (.int v2), some (.int v3), none, none, none] [] h) {h : Hp} {v1 : Nat} {v2 : Int32} {v3 : Int32} (e : R_127_17 rec_17 v1 v2 v3 h = some r) : G X d 127 17 [some (.ref 16), some (.ref v1), some (.int v2), some (.int v3), none, none, none] [] h := by
  unfold R_127_17 at e
  refine k_127_17 (fun c => ?_) (fun c => ?_)
  · rw [if_pos c] at e; exact r_127_107 hd hq e
  · rw [if_neg c] at e; exact r_127_22 hd hq hr_17 e
noncomputable def H_127_17 : Nat → Nat → Int32 → Int32 → Hp → Option (Int32 × Hp)
  | 0, _, _, _, _ => none
  | n + 1, v1, v2, v3, h => R_127_17 (H_127_17 n) v1 v2 v3 h
theorem h_127_17 {X : GX} {d : Nat} {r : Int32 × Hp} (hd : 3 ≤ d) (hq : RtX X none r.2) {n : Nat} {h : Hp} {v1 : Nat} {v2 : Int32} {v3 : Int32} (e : H_127_17 n v1 v2 v3 h = some r) : G X d 127 17 [some (.ref 16), some (.ref v1), some (.int v2), some (.int v3), none, none, none] [] h := by
  induction n generalizing v1 v2 v3 h with
  | zero => cases e
  | succ n ih => exact r_127_17 hd hq (fun e => ih e) e
noncomputable def R_127_14 (v1 : Nat) (s0 : Int32) (h : Hp) : Option (Int32 × Hp) := H_127_17 fuL v1 s0 1 h
theorem r_127_14 {X : GX} {d : Nat} {r : Int32 × Hp} (hd : 3 ≤ d) (hq : RtX X none r.2) {h : Hp} {v1 : Nat} {s0 : Int32} (e : R_127_14 v1 s0 h = some r) : G X d 127 14 [some (.ref 16), some (.ref v1), none, none, none, none, none] [.int s0] h := by
  unfold R_127_14 at e
  exact k_127_14 (h_127_17 hd hq e)
noncomputable def R_127_0 (v1 : Nat) (h : Hp) : Option (Int32 × Hp) := bndI (S_128 ((wr (wr h 16 5 0) 16 9 0))) (R_127_14 v1)
theorem r_127_0 {X : GX} {d : Nat} {r : Int32 × Hp} (hd : 3 ≤ d) (hq : RtX X none r.2) {h : Hp} {v1 : Nat} (e : R_127_0 v1 h = some r) : G X d 127 0 [some (.ref 16), some (.ref v1), none, none, none, none, none] [] h := by
  unfold R_127_0 at e
  obtain ⟨x, h2, e1, e2⟩ := bndI_s e
  refine k_127_0 (by omega) (t_128 e1) ?_
  rintro _ _ ⟨rfl, rfl⟩
  exact r_127_14 hd hq e2
noncomputable def S_127 (v1 : Nat) (h : Hp) : Option (Int32 × Hp) := R_127_0 v1 h
set_option maxRecDepth 100000 in
theorem t_127 {v1 : Nat} {h : Hp} {r : Int32 × Hp} (e : S_127 v1 h = some r) : CV 3 127 [.ref 16, .ref v1] h (fun g => g = r.2) := by
  refine C.of mo_127 (Nat.le_of_ble_eq_true rfl) (fun X hq => ?_)
  exact r_127_0 (Nat.le_refl _) (hq _ _ ⟨rfl, rfl⟩) e
/-! 126 PlayedTruth.lone(I)I -/
noncomputable def R_126_75 (h : Hp) : Option (Int32 × Hp) := some ((h 16 8), h)
theorem r_126_75 {X : GX} {d : Nat} {r : Int32 × Hp} (hd : 4 ≤ d) (hq : RtX X (some (.int r.1)) r.2) {h : Hp} (e : R_126_75 h = some r) : G X d 126 75 [some (.ref 0), none] [] h := by
  unfold R_126_75 at e
  rw [← Option.some.inj e] at hq
  exact k_126_75 hq
noncomputable def R_126_65 (h : Hp) : Option (Int32 × Hp) := some ((h 16 7), h)
theorem r_126_65 {X : GX} {d : Nat} {r : Int32 × Hp} (hd : 4 ≤ d) (hq : RtX X (some (.int r.1)) r.2) {h : Hp} (e : R_126_65 h = some r) : G X d 126 65 [some (.ref 0), none] [] h := by
  unfold R_126_65 at e
  rw [← Option.some.inj e] at hq
  exact k_126_65 hq
noncomputable def R_126_60 (v1 : Int32) (h : Hp) : Option (Int32 × Hp) := if v1 = 2 then R_126_65 h else R_126_75 h
theorem r_126_60 {X : GX} {d : Nat} {r : Int32 × Hp} (hd : 4 ≤ d) (hq : RtX X (some (.int r.1)) r.2) {h : Hp} {v1 : Int32} (e : R_126_60 v1 h = some r) : G X d 126 60 [some (.ref 0), some (.int v1)] [] h := by
  unfold R_126_60 at e
  refine k_126_60 (fun c => ?_) (fun c => ?_)
  · rw [if_neg c] at e; exact r_126_75 hd hq e
  · rw [if_pos c] at e; exact r_126_65 hd hq e
noncomputable def R_126_52 (h : Hp) : Option (Int32 × Hp) := some ((h 16 6), h)
theorem r_126_52 {X : GX} {d : Nat} {r : Int32 × Hp} (hd : 4 ≤ d) (hq : RtX X (some (.int r.1)) r.2) {h : Hp} (e : R_126_52 h = some r) : G X d 126 52 [some (.ref 0), none] [] h := by
  unfold R_126_52 at e
  rw [← Option.some.inj e] at hq
  exact k_126_52 hq
noncomputable def R_126_47 (v1 : Int32) (h : Hp) : Option (Int32 × Hp) := if v1 = 1 then R_126_52 h else R_126_60 v1 h
theorem r_126_47 {X : GX} {d : Nat} {r : Int32 × Hp} (hd : 4 ≤ d) (hq : RtX X (some (.int r.1)) r.2) {h : Hp} {v1 : Int32} (e : R_126_47 v1 h = some r) : G X d 126 47 [some (.ref 0), some (.int v1)] [] h := by
  unfold R_126_47 at e
  refine k_126_47 (fun c => ?_) (fun c => ?_)
  · rw [if_neg c] at e; exact r_126_60 hd hq e
  · rw [if_pos c] at e; exact r_126_52 hd hq e
noncomputable def R_126_44 (h : Hp) : Option (Int32 × Hp) := some (((-3)), h)
theorem r_126_44 {X : GX} {d : Nat} {r : Int32 × Hp} (hd : 4 ≤ d) (hq : RtX X (some (.int r.1)) r.2) {h : Hp} (e : R_126_44 h = some r) : G X d 126 44 [none, none] [] h := by
  unfold R_126_44 at e
  rw [← Option.some.inj e] at hq
  exact k_126_44 hq
noncomputable def R_126_34 (v1 : Int32) (h : Hp) : Option (Int32 × Hp) := if (h 16 5) = 0 then R_126_44 h else R_126_47 v1 h
theorem r_126_34 {X : GX} {d : Nat} {r : Int32 × Hp} (hd : 4 ≤ d) (hq : RtX X (some (.int r.1)) r.2) {h : Hp} {v1 : Int32} (e : R_126_34 v1 h = some r) : G X d 126 34 [some (.ref 0), some (.int v1)] [] h := by
  unfold R_126_34 at e
  refine k_126_34 (fun c => ?_) (fun c => ?_)
  · rw [if_neg c] at e; exact r_126_47 hd hq e
  · rw [if_pos c] at e; exact r_126_44 hd hq e
noncomputable def R_126_26 (h : Hp) : Option (Int32 × Hp) := some ((h 16 5), h)
theorem r_126_26 {X : GX} {d : Nat} {r : Int32 × Hp} (hd : 4 ≤ d) (hq : RtX X (some (.int r.1)) r.2) {h : Hp} (e : R_126_26 h = some r) : G X d 126 26 [some (.ref 0), none] [] h := by
  unfold R_126_26 at e
  rw [← Option.some.inj e] at hq
  exact k_126_26 hq
noncomputable def R_126_22 (v1 : Int32) (h : Hp) : Option (Int32 × Hp) := if v1 = 0 then R_126_26 h else R_126_34 v1 h
theorem r_126_22 {X : GX} {d : Nat} {r : Int32 × Hp} (hd : 4 ≤ d) (hq : RtX X (some (.int r.1)) r.2) {h : Hp} {v1 : Int32} (e : R_126_22 v1 h = some r) : G X d 126 22 [some (.ref 0), some (.int v1)] [] h := by
  unfold R_126_22 at e
  refine k_126_22 (fun c => ?_) (fun c => ?_)
  · rw [if_neg c] at e; exact r_126_34 hd hq e
  · rw [if_pos c] at e; exact r_126_26 hd hq e
noncomputable def R_126_11 (v1 : Int32) (h : Hp) : Option (Int32 × Hp) := bndV (S_127 1 h) (R_126_22 v1)
theorem r_126_11 {X : GX} {d : Nat} {r : Int32 × Hp} (hd : 4 ≤ d) (hq : RtX X (some (.int r.1)) r.2) {h : Hp} {v1 : Int32} (e : R_126_11 v1 h = some r) : G X d 126 11 [some (.ref 0), some (.int v1)] [] h := by
  unfold R_126_11 at e
  obtain ⟨x, h2, e1, e2⟩ := bndV_s e
  refine k_126_11 (by omega) (t_127 e1) ?_
  rintro _ rfl
  exact r_126_22 hd hq e2
noncomputable def R_126_9 (h : Hp) : Option (Int32 × Hp) := some (((-1)), h)
theorem r_126_9 {X : GX} {d : Nat} {r : Int32 × Hp} (hd : 4 ≤ d) (hq : RtX X (some (.int r.1)) r.2) {h : Hp} (e : R_126_9 h = some r) : G X d 126 9 [none, none] [] h := by
  unfold R_126_9 at e
  rw [← Option.some.inj e] at hq
  exact k_126_9 hq
noncomputable def R_126_6 (v1 : Int32) (s0 : Int32) (h : Hp) : Option (Int32 × Hp) := if s0 = 0 then R_126_9 h else R_126_11 v1 h
theorem r_126_6 {X : GX} {d : Nat} {r : Int32 × Hp} (hd : 4 ≤ d) (hq : RtX X (some (.int r.1)) r.2) {h : Hp} {v1 : Int32} {s0 : Int32} (e : R_126_6 v1 s0 h = some r) : G X d 126 6 [some (.ref 0), some (.int v1)] [.int s0] h := by
  unfold R_126_6 at e
  refine k_126_6 (fun c => ?_) (fun c => ?_)
  · rw [if_neg c] at e; exact r_126_11 hd hq e
  · rw [if_pos c] at e; exact r_126_9 hd hq e
noncomputable def R_126_0 (v1 : Int32) (h : Hp) : Option (Int32 × Hp) := bndI (S_11 v1 0 3 h) (R_126_6 v1)
theorem r_126_0 {X : GX} {d : Nat} {r : Int32 × Hp} (hd : 4 ≤ d) (hq : RtX X (some (.int r.1)) r.2) {h : Hp} {v1 : Int32} (e : R_126_0 v1 h = some r) : G X d 126 0 [some (.ref 0), some (.int v1)] [] h := by
  unfold R_126_0 at e
  obtain ⟨x, h2, e1, e2⟩ := bndI_s e
  refine k_126_0 (by omega) (t_11 e1) ?_
  rintro _ _ ⟨rfl, rfl⟩
  exact r_126_6 hd hq e2
noncomputable def S_126 (v1 : Int32) (h : Hp) : Option (Int32 × Hp) := R_126_0 v1 h
set_option maxRecDepth 100000 in
theorem t_126 {v1 : Int32} {h : Hp} {r : Int32 × Hp} (e : S_126 v1 h = some r) : CI 4 126 [.ref 0, .int v1] h (fun x g => x = r.1 ∧ g = r.2) := by
  refine C.of mo_126 (Nat.le_of_ble_eq_true rfl) (fun X hq => ?_)
  exact r_126_0 (Nat.le_refl _) (hq _ _ ⟨_, rfl, rfl, rfl⟩) e
/-! 132 PlayedTruth.liar()I -/
noncomputable def R_132_36 (s0 : Int32) (h : Hp) : Option (Int32 × Hp) := some (s0, h)
theorem r_132_36 {X : GX} {d : Nat} {r : Int32 × Hp} (hd : 4 ≤ d) (hq : RtX X (some (.int r.1)) r.2) {h : Hp} {s0 : Int32} (e : R_132_36 s0 h = some r) : G X d 132 36 [none] [.int s0] h := by
  unfold R_132_36 at e
  rw [← Option.some.inj e] at hq
  exact k_132_36 hq
noncomputable def R_132_26 (h : Hp) : Option (Int32 × Hp) := bndI (S_118 (h 16 9) h) (R_132_36)
theorem r_132_26 {X : GX} {d : Nat} {r : Int32 × Hp} (hd : 4 ≤ d) (hq : RtX X (some (.int r.1)) r.2) {h : Hp} (e : R_132_26 h = some r) : G X d 132 26 [some (.ref 0)] [] h := by
  unfold R_132_26 at e
  obtain ⟨x, h2, e1, e2⟩ := bndI_s e
  refine k_132_26 (by omega) (t_118 e1) ?_
  rintro _ _ ⟨rfl, rfl⟩
  exact r_132_36 hd hq e2
noncomputable def R_132_21 (h : Hp) : Option (Int32 × Hp) := some (((-3)), h)
theorem r_132_21 {X : GX} {d : Nat} {r : Int32 × Hp} (hd : 4 ≤ d) (hq : RtX X (some (.int r.1)) r.2) {h : Hp} (e : R_132_21 h = some r) : G X d 132 21 [none] [] h := by
  unfold R_132_21 at e
  rw [← Option.some.inj e] at hq
  exact k_132_21 hq
noncomputable def R_132_11 (h : Hp) : Option (Int32 × Hp) := if (h 16 5) ≤ 0 then R_132_26 h else R_132_21 h
theorem r_132_11 {X : GX} {d : Nat} {r : Int32 × Hp} (hd : 4 ≤ d) (hq : RtX X (some (.int r.1)) r.2) {h : Hp} (e : R_132_11 h = some r) : G X d 132 11 [some (.ref 0)] [] h := by
  unfold R_132_11 at e
  refine k_132_11 (fun c => ?_) (fun c => ?_)
  · rw [if_pos c] at e; exact r_132_26 hd hq e
  · rw [if_neg c] at e; exact r_132_21 hd hq e
noncomputable def R_132_0 (h : Hp) : Option (Int32 × Hp) := bndV (S_127 1 h) (R_132_11)
theorem r_132_0 {X : GX} {d : Nat} {r : Int32 × Hp} (hd : 4 ≤ d) (hq : RtX X (some (.int r.1)) r.2) {h : Hp} (e : R_132_0 h = some r) : G X d 132 0 [some (.ref 0)] [] h := by
  unfold R_132_0 at e
  obtain ⟨x, h2, e1, e2⟩ := bndV_s e
  refine k_132_0 (by omega) (t_127 e1) ?_
  rintro _ rfl
  exact r_132_11 hd hq e2
noncomputable def S_132 (h : Hp) : Option (Int32 × Hp) := R_132_0 h
set_option maxRecDepth 100000 in
theorem t_132 {h : Hp} {r : Int32 × Hp} (e : S_132 h = some r) : CI 4 132 [.ref 0] h (fun x g => x = r.1 ∧ g = r.2) := by
  refine C.of mo_132 (Nat.le_of_ble_eq_true rfl) (fun X hq => ?_)
  exact r_132_0 (Nat.le_refl _) (hq _ _ ⟨_, rfl, rfl, rfl⟩) e
/-! 133 PlayedTruth.seed(I)I -/
noncomputable def R_133_0 (v1 : Int32) (h : Hp) : Option (Int32 × Hp) := some ((h 13 5), (wr h 13 5 v1))
theorem r_133_0 {X : GX} {d : Nat} {r : Int32 × Hp} (hd : 1 ≤ d) (hq : RtX X (some (.int r.1)) r.2) {h : Hp} {v1 : Int32} (e : R_133_0 v1 h = some r) : G X d 133 0 [some (.ref 0), some (.int v1), none] [] h := by
  unfold R_133_0 at e
  rw [← Option.some.inj e] at hq
  exact k_133_0 hq
noncomputable def S_133 (v1 : Int32) (h : Hp) : Option (Int32 × Hp) := R_133_0 v1 h
set_option maxRecDepth 100000 in
theorem t_133 {v1 : Int32} {h : Hp} {r : Int32 × Hp} (e : S_133 v1 h = some r) : CI 1 133 [.ref 0, .int v1] h (fun x g => x = r.1 ∧ g = r.2) := by
  refine C.of mo_133 (Nat.le_of_ble_eq_true rfl) (fun X hq => ?_)
  exact r_133_0 (Nat.le_refl _) (hq _ _ ⟨_, rfl, rfl, rfl⟩) e
/-! 135 PlayedTruth$Stage.goByLot(LPlayedTruth$Moment;)I -/
noncomputable def R_135_34 (s0 : Int32) (h : Hp) : Option (Int32 × Hp) := some (s0, h)
theorem r_135_34 {X : GX} {d : Nat} {r : Int32 × Hp} (hd : 6 ≤ d) (hq : RtX X (some (.int r.1)) r.2) {h : Hp} {s0 : Int32} (e : R_135_34 s0 h = some r) : G X d 135 34 [none, none] [.int s0] h := by
  unfold R_135_34 at e
  rw [← Option.some.inj e] at hq
  exact k_135_34 hq
noncomputable def R_135_0 (v1 : Nat) (h : Hp) : Option (Int32 × Hp) := gd (sh v1 = (1, 3) ∧ ¬ (((wr h v1 5 (((h v1 5) * 1103515245) + 12345)) 1 7) + 1) = 0) (bndI (S_81 v1 (((((wr h v1 5 (((h v1 5) * 1103515245) + 12345)) v1 5).toUInt32 >>> ((16 : Int32).toUInt32 &&& Int32.toUInt32 31)).toInt32) - ((((wr h v1 5 (((h v1 5) * 1103515245) + 12345)) v1 5).toUInt32 >>> ((16 : Int32).toUInt32 &&& Int32.toUInt32 31)).toInt32) / (((wr h v1 5 (((h v1 5) * 1103515245) + 12345)) 1 7) + 1) * (((wr h v1 5 (((h v1 5) * 1103515245) + 12345)) 1 7) + 1)) ((wr h v1 5 (((h v1 5) * 1103515245) + 12345)))) (R_135_34))
set_option maxRecDepth 100000 in
theorem r_135_0 {X : GX} {d : Nat} {r : Int32 × Hp} (hd : 6 ≤ d) (hq : RtX X (some (.int r.1)) r.2) {h : Hp} {v1 : Nat} (e : R_135_0 v1 h = some r) : G X d 135 0 [some (.ref 1), some (.ref v1)] [] h := by
  unfold R_135_0 at e
  have g := gd_s e; clear e; obtain ⟨⟨o0, n1⟩, e⟩ := g
  obtain ⟨x, h2, e1, e2⟩ := bndI_s e
  refine k_135_0 o0 n1 (by omega) (t_81 e1) ?_
  rintro _ _ ⟨rfl, rfl⟩
  exact r_135_34 hd hq e2
noncomputable def S_135 (v1 : Nat) (h : Hp) : Option (Int32 × Hp) := R_135_0 v1 h
set_option maxRecDepth 100000 in
theorem t_135 {v1 : Nat} {h : Hp} {r : Int32 × Hp} (e : S_135 v1 h = some r) : CI 6 135 [.ref 1, .ref v1] h (fun x g => x = r.1 ∧ g = r.2) := by
  refine C.of mo_135 (Nat.le_of_ble_eq_true rfl) (fun X hq => ?_)
  exact r_135_0 (Nat.le_refl _) (hq _ _ ⟨_, rfl, rfl, rfl⟩) e
/-! 134 PlayedTruth.lot()I -/
noncomputable def R_134_30 (s0 : Int32) (h : Hp) : Option (Int32 × Hp) := some (s0, h)
theorem r_134_30 {X : GX} {d : Nat} {r : Int32 × Hp} (hd : 7 ≤ d) (hq : RtX X (some (.int r.1)) r.2) {h : Hp} {s0 : Int32} (e : R_134_30 s0 h = some r) : G X d 134 30 [none] [.int s0] h := by
  unfold R_134_30 at e
  rw [← Option.some.inj e] at hq
  exact k_134_30 hq
noncomputable def R_134_19 (h : Hp) : Option (Int32 × Hp) := bndI (S_135 13 h) (R_134_30)
theorem r_134_19 {X : GX} {d : Nat} {r : Int32 × Hp} (hd : 7 ≤ d) (hq : RtX X (some (.int r.1)) r.2) {h : Hp} (e : R_134_19 h = some r) : G X d 134 19 [some (.ref 0)] [] h := by
  unfold R_134_19 at e
  obtain ⟨x, h2, e1, e2⟩ := bndI_s e
  refine k_134_19 (by omega) (t_135 e1) ?_
  rintro _ _ ⟨rfl, rfl⟩
  exact r_134_30 hd hq e2
noncomputable def R_134_14 (h : Hp) : Option (Int32 × Hp) := some (((-4)), h)
theorem r_134_14 {X : GX} {d : Nat} {r : Int32 × Hp} (hd : 7 ≤ d) (hq : RtX X (some (.int r.1)) r.2) {h : Hp} (e : R_134_14 h = some r) : G X d 134 14 [none] [] h := by
  unfold R_134_14 at e
  rw [← Option.some.inj e] at hq
  exact k_134_14 hq
noncomputable def R_134_11 (s0 : Int32) (h : Hp) : Option (Int32 × Hp) := if s0 = 0 then R_134_19 h else R_134_14 h
theorem r_134_11 {X : GX} {d : Nat} {r : Int32 × Hp} (hd : 7 ≤ d) (hq : RtX X (some (.int r.1)) r.2) {h : Hp} {s0 : Int32} (e : R_134_11 s0 h = some r) : G X d 134 11 [some (.ref 0)] [.int s0] h := by
  unfold R_134_11 at e
  refine k_134_11 (fun c => ?_) (fun c => ?_)
  · rw [if_pos c] at e; exact r_134_19 hd hq e
  · rw [if_neg c] at e; exact r_134_14 hd hq e
noncomputable def R_134_0 (h : Hp) : Option (Int32 × Hp) := bndI (S_38 13 h) (R_134_11)
theorem r_134_0 {X : GX} {d : Nat} {r : Int32 × Hp} (hd : 7 ≤ d) (hq : RtX X (some (.int r.1)) r.2) {h : Hp} (e : R_134_0 h = some r) : G X d 134 0 [some (.ref 0)] [] h := by
  unfold R_134_0 at e
  obtain ⟨x, h2, e1, e2⟩ := bndI_s e
  refine k_134_0 (by omega) (t_38 e1) ?_
  rintro _ _ ⟨rfl, rfl⟩
  exact r_134_11 hd hq e2
noncomputable def S_134 (h : Hp) : Option (Int32 × Hp) := R_134_0 h
set_option maxRecDepth 100000 in
theorem t_134 {h : Hp} {r : Int32 × Hp} (e : S_134 h = some r) : CI 7 134 [.ref 0] h (fun x g => x = r.1 ∧ g = r.2) := by
  refine C.of mo_134 (Nat.le_of_ble_eq_true rfl) (fun X hq => ?_)
  exact r_134_0 (Nat.le_refl _) (hq _ _ ⟨_, rfl, rfl, rfl⟩) e
/-! 137 PlayedTruth$Ahead.timesByLot(II)I -/
noncomputable def R_137_104 (v3 : Int32) (h : Hp) : Option (Int32 × Hp) := some (v3, h)
theorem r_137_104 {X : GX} {d : Nat} {r : Int32 × Hp} (hd : 7 ≤ d) (hq : RtX X (some (.int r.1)) r.2) {h : Hp} {v3 : Int32} (e : R_137_104 v3 h = some r) : G X d 137 104 [none, none, none, some (.int v3), none, none, none, none] [] h := by
  unfold R_137_104 at e
  rw [← Option.some.inj e] at hq
  exact k_137_104 hq
noncomputable def R_137_98 (rec_14 : Int32 → Int32 → Int32 → Int32 → Int32 → Hp → Option (Int32 × Hp)) (v1 : Int32) (v2 : Int32) (v3 : Int32) (v4 : Int32) (v5 : Int32) (h : Hp) : Option (Int32 × Hp) := rec_14 v1 v2 v3 v4 (v5 + 1) h
theorem r_137_98 {X : GX} {d : Nat} {r : Int32 × Hp} (hd : 7 ≤ d) (hq : RtX X (some (.int r.1)) r.2) {rec_14 : Int32 → Int32 → Int32 → Int32 → Int32 → Hp → Option (Int32 × Hp)} (hr_14 : ∀ {v1 : Int32} {v2 : Int32} {v3 : Int32} {v4 : Int32} {v5 : Int32} {h : Hp}, rec_14 v1 v2 v3 v4 v5 h = some r → G X d 137 14 [some (.ref 31), some (.int v1), some (.int v2), some (.int v3), some (.int v4), some (.int v5), none, none] [] h) {h : Hp} {v1 : Int32} {v2 : Int32} {v3 : Int32} {v4 : Int32} {v5 : Int32} (e : R_137_98 rec_14 v1 v2 v3 v4 v5 h = some r) : G X d 137 98 [some (.ref 31), some (.int v1), some (.int v2), some (.int v3), some (.int v4), some (.int v5), none, none] [] h := by
  unfold R_137_98 at e
  exact k_137_98 (hr_14 e)
noncomputable def R_137_95 (rec_14 : Int32 → Int32 → Int32 → Int32 → Int32 → Hp → Option (Int32 × Hp)) (v1 : Int32) (v2 : Int32) (v3 : Int32) (v4 : Int32) (v5 : Int32) (h : Hp) : Option (Int32 × Hp) := rec_14 v1 v2 (v3 + 1) v4 (v5 + 1) h
theorem r_137_95 {X : GX} {d : Nat} {r : Int32 × Hp} (hd : 7 ≤ d) (hq : RtX X (some (.int r.1)) r.2) {rec_14 : Int32 → Int32 → Int32 → Int32 → Int32 → Hp → Option (Int32 × Hp)} (hr_14 : ∀ {v1 : Int32} {v2 : Int32} {v3 : Int32} {v4 : Int32} {v5 : Int32} {h : Hp}, rec_14 v1 v2 v3 v4 v5 h = some r → G X d 137 14 [some (.ref 31), some (.int v1), some (.int v2), some (.int v3), some (.int v4), some (.int v5), none, none] [] h) {h : Hp} {v1 : Int32} {v2 : Int32} {v3 : Int32} {v4 : Int32} {v5 : Int32} (e : R_137_95 rec_14 v1 v2 v3 v4 v5 h = some r) : G X d 137 95 [some (.ref 31), some (.int v1), some (.int v2), some (.int v3), some (.int v4), some (.int v5), none, none] [] h := by
  unfold R_137_95 at e
  exact k_137_95 (hr_14 e)
noncomputable def R_137_71 (rec_14 : Int32 → Int32 → Int32 → Int32 → Int32 → Hp → Option (Int32 × Hp)) (v1 : Int32) (v2 : Int32) (v3 : Int32) (v5 : Int32) (v6 : Nat) (h : Hp) : Option (Int32 × Hp) := gd (sh v6 = (1, 3)) (if ((h v6 4) - (h 13 4)) < v2 then R_137_98 rec_14 v1 v2 v3 (h v6 5) v5 h else R_137_95 rec_14 v1 v2 v3 (h v6 5) v5 h)
theorem r_137_71 {X : GX} {d : Nat} {r : Int32 × Hp} (hd : 7 ≤ d) (hq : RtX X (some (.int r.1)) r.2) {rec_14 : Int32 → Int32 → Int32 → Int32 → Int32 → Hp → Option (Int32 × Hp)} (hr_14 : ∀ {v1 : Int32} {v2 : Int32} {v3 : Int32} {v4 : Int32} {v5 : Int32} {h : Hp}, rec_14 v1 v2 v3 v4 v5 h = some r → G X d 137 14 [some (.ref 31), some (.int v1), some (.int v2), some (.int v3), some (.int v4), some (.int v5), none, none] [] h) {h : Hp} {v1 : Int32} {v2 : Int32} {v3 : Int32} {v5 : Int32} {v6 : Nat} (e : R_137_71 rec_14 v1 v2 v3 v5 v6 h = some r) : G X d 137 71 [some (.ref 31), some (.int v1), some (.int v2), some (.int v3), none, some (.int v5), some (.ref v6), none] [] h := by
  unfold R_137_71 at e
  have g := gd_s e; clear e; obtain ⟨o0, e⟩ := g
  refine k_137_71 o0 (fun c => ?_) (fun c => ?_)
  · rw [if_pos c] at e; exact r_137_98 hd hq hr_14 e
  · rw [if_neg c] at e; exact r_137_95 hd hq hr_14 e
noncomputable def R_137_64 (rec_14 : Int32 → Int32 → Int32 → Int32 → Int32 → Hp → Option (Int32 × Hp)) (rec_36 : Int32 → Int32 → Int32 → Int32 → Nat → Int32 → Hp → Option (Int32 × Hp)) (v1 : Int32) (v2 : Int32) (v3 : Int32) (v5 : Int32) (v6 : Nat) (v7 : Int32) (s0 : Int32) (h : Hp) : Option (Int32 × Hp) := rec_36 v1 v2 v3 v5 v6 (v7 + 1) h
theorem r_137_64 {X : GX} {d : Nat} {r : Int32 × Hp} (hd : 7 ≤ d) (hq : RtX X (some (.int r.1)) r.2) {rec_14 : Int32 → Int32 → Int32 → Int32 → Int32 → Hp → Option (Int32 × Hp)} {rec_36 : Int32 → Int32 → Int32 → Int32 → Nat → Int32 → Hp → Option (Int32 × Hp)} (hr_14 : ∀ {v1 : Int32} {v2 : Int32} {v3 : Int32} {v4 : Int32} {v5 : Int32} {h : Hp}, rec_14 v1 v2 v3 v4 v5 h = some r → G X d 137 14 [some (.ref 31), some (.int v1), some (.int v2), some (.int v3), some (.int v4), some (.int v5), none, none] [] h) (hr_36 : ∀ {v1 : Int32} {v2 : Int32} {v3 : Int32} {v5 : Int32} {v6 : Nat} {v7 : Int32} {h : Hp}, rec_36 v1 v2 v3 v5 v6 v7 h = some r → G X d 137 36 [some (.ref 31), some (.int v1), some (.int v2), some (.int v3), none, some (.int v5), some (.ref v6), some (.int v7)] [] h) {h : Hp} {v1 : Int32} {v2 : Int32} {v3 : Int32} {v5 : Int32} {v6 : Nat} {v7 : Int32} {s0 : Int32} (e : R_137_64 rec_14 rec_36 v1 v2 v3 v5 v6 v7 s0 h = some r) : G X d 137 64 [some (.ref 31), some (.int v1), some (.int v2), some (.int v3), none, some (.int v5), some (.ref v6), some (.int v7)] [.int s0] h := by
  unfold R_137_64 at e
  exact k_137_64 (hr_36 e)
noncomputable def R_137_55 (rec_14 : Int32 → Int32 → Int32 → Int32 → Int32 → Hp → Option (Int32 × Hp)) (rec_36 : Int32 → Int32 → Int32 → Int32 → Nat → Int32 → Hp → Option (Int32 × Hp)) (v1 : Int32) (v2 : Int32) (v3 : Int32) (v5 : Int32) (v6 : Nat) (v7 : Int32) (h : Hp) : Option (Int32 × Hp) := bndI (S_135 v6 h) (R_137_64 rec_14 rec_36 v1 v2 v3 v5 v6 v7)
theorem r_137_55 {X : GX} {d : Nat} {r : Int32 × Hp} (hd : 7 ≤ d) (hq : RtX X (some (.int r.1)) r.2) {rec_14 : Int32 → Int32 → Int32 → Int32 → Int32 → Hp → Option (Int32 × Hp)} {rec_36 : Int32 → Int32 → Int32 → Int32 → Nat → Int32 → Hp → Option (Int32 × Hp)} (hr_14 : ∀ {v1 : Int32} {v2 : Int32} {v3 : Int32} {v4 : Int32} {v5 : Int32} {h : Hp}, rec_14 v1 v2 v3 v4 v5 h = some r → G X d 137 14 [some (.ref 31), some (.int v1), some (.int v2), some (.int v3), some (.int v4), some (.int v5), none, none] [] h) (hr_36 : ∀ {v1 : Int32} {v2 : Int32} {v3 : Int32} {v5 : Int32} {v6 : Nat} {v7 : Int32} {h : Hp}, rec_36 v1 v2 v3 v5 v6 v7 h = some r → G X d 137 36 [some (.ref 31), some (.int v1), some (.int v2), some (.int v3), none, some (.int v5), some (.ref v6), some (.int v7)] [] h) {h : Hp} {v1 : Int32} {v2 : Int32} {v3 : Int32} {v5 : Int32} {v6 : Nat} {v7 : Int32} (e : R_137_55 rec_14 rec_36 v1 v2 v3 v5 v6 v7 h = some r) : G X d 137 55 [some (.ref 31), some (.int v1), some (.int v2), some (.int v3), none, some (.int v5), some (.ref v6), some (.int v7)] [] h := by
  unfold R_137_55 at e
  obtain ⟨x, h2, e1, e2⟩ := bndI_s e
  refine k_137_55 (by omega) (t_135 e1) ?_
  rintro _ _ ⟨rfl, rfl⟩
  exact r_137_64 hd hq hr_14 hr_36 e2
noncomputable def R_137_52 (rec_14 : Int32 → Int32 → Int32 → Int32 → Int32 → Hp → Option (Int32 × Hp)) (rec_36 : Int32 → Int32 → Int32 → Int32 → Nat → Int32 → Hp → Option (Int32 × Hp)) (v1 : Int32) (v2 : Int32) (v3 : Int32) (v5 : Int32) (v6 : Nat) (v7 : Int32) (s0 : Int32) (h : Hp) : Option (Int32 × Hp) := if s0 = 0 then R_137_55 rec_14 rec_36 v1 v2 v3 v5 v6 v7 h else R_137_71 rec_14 v1 v2 v3 v5 v6 h
theorem r_137_52 {X : GX} {d : Nat} {r : Int32 × Hp} (hd : 7 ≤ d) (hq : RtX X (some (.int r.1)) r.2) {rec_14 : Int32 → Int32 → Int32 → Int32 → Int32 → Hp → Option (Int32 × Hp)} {rec_36 : Int32 → Int32 → Int32 → Int32 → Nat → Int32 → Hp → Option (Int32 × Hp)} (hr_14 : ∀ {v1 : Int32} {v2 : Int32} {v3 : Int32} {v4 : Int32} {v5 : Int32} {h : Hp}, rec_14 v1 v2 v3 v4 v5 h = some r → G X d 137 14 [some (.ref 31), some (.int v1), some (.int v2), some (.int v3), some (.int v4), some (.int v5), none, none] [] h) (hr_36 : ∀ {v1 : Int32} {v2 : Int32} {v3 : Int32} {v5 : Int32} {v6 : Nat} {v7 : Int32} {h : Hp}, rec_36 v1 v2 v3 v5 v6 v7 h = some r → G X d 137 36 [some (.ref 31), some (.int v1), some (.int v2), some (.int v3), none, some (.int v5), some (.ref v6), some (.int v7)] [] h) {h : Hp} {v1 : Int32} {v2 : Int32} {v3 : Int32} {v5 : Int32} {v6 : Nat} {v7 : Int32} {s0 : Int32} (e : R_137_52 rec_14 rec_36 v1 v2 v3 v5 v6 v7 s0 h = some r) : G X d 137 52 [some (.ref 31), some (.int v1), some (.int v2), some (.int v3), none, some (.int v5), some (.ref v6), some (.int v7)] [.int s0] h := by
  unfold R_137_52 at e
  refine k_137_52 (fun c => ?_) (fun c => ?_)
  · rw [if_neg c] at e; exact r_137_71 hd hq hr_14 e
  · rw [if_pos c] at e; exact r_137_55 hd hq hr_14 hr_36 e
noncomputable def R_137_43 (rec_14 : Int32 → Int32 → Int32 → Int32 → Int32 → Hp → Option (Int32 × Hp)) (rec_36 : Int32 → Int32 → Int32 → Int32 → Nat → Int32 → Hp → Option (Int32 × Hp)) (v1 : Int32) (v2 : Int32) (v3 : Int32) (v5 : Int32) (v6 : Nat) (v7 : Int32) (h : Hp) : Option (Int32 × Hp) := bndI (S_38 v6 h) (R_137_52 rec_14 rec_36 v1 v2 v3 v5 v6 v7)
theorem r_137_43 {X : GX} {d : Nat} {r : Int32 × Hp} (hd : 7 ≤ d) (hq : RtX X (some (.int r.1)) r.2) {rec_14 : Int32 → Int32 → Int32 → Int32 → Int32 → Hp → Option (Int32 × Hp)} {rec_36 : Int32 → Int32 → Int32 → Int32 → Nat → Int32 → Hp → Option (Int32 × Hp)} (hr_14 : ∀ {v1 : Int32} {v2 : Int32} {v3 : Int32} {v4 : Int32} {v5 : Int32} {h : Hp}, rec_14 v1 v2 v3 v4 v5 h = some r → G X d 137 14 [some (.ref 31), some (.int v1), some (.int v2), some (.int v3), some (.int v4), some (.int v5), none, none] [] h) (hr_36 : ∀ {v1 : Int32} {v2 : Int32} {v3 : Int32} {v5 : Int32} {v6 : Nat} {v7 : Int32} {h : Hp}, rec_36 v1 v2 v3 v5 v6 v7 h = some r → G X d 137 36 [some (.ref 31), some (.int v1), some (.int v2), some (.int v3), none, some (.int v5), some (.ref v6), some (.int v7)] [] h) {h : Hp} {v1 : Int32} {v2 : Int32} {v3 : Int32} {v5 : Int32} {v6 : Nat} {v7 : Int32} (e : R_137_43 rec_14 rec_36 v1 v2 v3 v5 v6 v7 h = some r) : G X d 137 43 [some (.ref 31), some (.int v1), some (.int v2), some (.int v3), none, some (.int v5), some (.ref v6), some (.int v7)] [] h := by
  unfold R_137_43 at e
  obtain ⟨x, h2, e1, e2⟩ := bndI_s e
  refine k_137_43 (by omega) (t_38 e1) ?_
  rintro _ _ ⟨rfl, rfl⟩
  exact r_137_52 hd hq hr_14 hr_36 e2
noncomputable def R_137_36 (rec_14 : Int32 → Int32 → Int32 → Int32 → Int32 → Hp → Option (Int32 × Hp)) (rec_36 : Int32 → Int32 → Int32 → Int32 → Nat → Int32 → Hp → Option (Int32 × Hp)) (v1 : Int32) (v2 : Int32) (v3 : Int32) (v5 : Int32) (v6 : Nat) (v7 : Int32) (h : Hp) : Option (Int32 × Hp) := if 16 ≤ v7 then R_137_71 rec_14 v1 v2 v3 v5 v6 h else R_137_43 rec_14 rec_36 v1 v2 v3 v5 v6 v7 h
theorem r_137_36 {X : GX} {d : Nat} {r : Int32 × Hp} (hd : 7 ≤ d) (hq : RtX X (some (.int r.1)) r.2) {rec_14 : Int32 → Int32 → Int32 → Int32 → Int32 → Hp → Option (Int32 × Hp)} {rec_36 : Int32 → Int32 → Int32 → Int32 → Nat → Int32 → Hp → Option (Int32 × Hp)} (hr_14 : ∀ {v1 : Int32} {v2 : Int32} {v3 : Int32} {v4 : Int32} {v5 : Int32} {h : Hp}, rec_14 v1 v2 v3 v4 v5 h = some r → G X d 137 14 [some (.ref 31), some (.int v1), some (.int v2), some (.int v3), some (.int v4), some (.int v5), none, none] [] h) (hr_36 : ∀ {v1 : Int32} {v2 : Int32} {v3 : Int32} {v5 : Int32} {v6 : Nat} {v7 : Int32} {h : Hp}, rec_36 v1 v2 v3 v5 v6 v7 h = some r → G X d 137 36 [some (.ref 31), some (.int v1), some (.int v2), some (.int v3), none, some (.int v5), some (.ref v6), some (.int v7)] [] h) {h : Hp} {v1 : Int32} {v2 : Int32} {v3 : Int32} {v5 : Int32} {v6 : Nat} {v7 : Int32} (e : R_137_36 rec_14 rec_36 v1 v2 v3 v5 v6 v7 h = some r) : G X d 137 36 [some (.ref 31), some (.int v1), some (.int v2), some (.int v3), none, some (.int v5), some (.ref v6), some (.int v7)] [] h := by
  unfold R_137_36 at e
  refine k_137_36 (fun c => ?_) (fun c => ?_)
  · rw [if_pos c] at e; exact r_137_71 hd hq hr_14 e
  · rw [if_neg c] at e; exact r_137_43 hd hq hr_14 hr_36 e
noncomputable def H_137_36 (rec_14 : Int32 → Int32 → Int32 → Int32 → Int32 → Hp → Option (Int32 × Hp)) : Nat → Int32 → Int32 → Int32 → Int32 → Nat → Int32 → Hp → Option (Int32 × Hp)
  | 0, _, _, _, _, _, _, _ => none
  | n + 1, v1, v2, v3, v5, v6, v7, h => R_137_36 rec_14 (H_137_36 rec_14 n) v1 v2 v3 v5 v6 v7 h
theorem h_137_36 {X : GX} {d : Nat} {r : Int32 × Hp} (hd : 7 ≤ d) (hq : RtX X (some (.int r.1)) r.2) {rec_14 : Int32 → Int32 → Int32 → Int32 → Int32 → Hp → Option (Int32 × Hp)} (hr_14 : ∀ {v1 : Int32} {v2 : Int32} {v3 : Int32} {v4 : Int32} {v5 : Int32} {h : Hp}, rec_14 v1 v2 v3 v4 v5 h = some r → G X d 137 14 [some (.ref 31), some (.int v1), some (.int v2), some (.int v3), some (.int v4), some (.int v5), none, none] [] h) {n : Nat} {h : Hp} {v1 : Int32} {v2 : Int32} {v3 : Int32} {v5 : Int32} {v6 : Nat} {v7 : Int32} (e : H_137_36 rec_14 n v1 v2 v3 v5 v6 v7 h = some r) : G X d 137 36 [some (.ref 31), some (.int v1), some (.int v2), some (.int v3), none, some (.int v5), some (.ref v6), some (.int v7)] [] h := by
  induction n generalizing v1 v2 v3 v5 v6 v7 h with
  | zero => cases e
  | succ n ih => exact r_137_36 hd hq hr_14 (fun e => ih e) e
noncomputable def R_137_24 (rec_14 : Int32 → Int32 → Int32 → Int32 → Int32 → Hp → Option (Int32 × Hp)) (v1 : Int32) (v2 : Int32) (v3 : Int32) (v4 : Int32) (v5 : Int32) (s0 : Nat) (h : Hp) : Option (Int32 × Hp) := gd (sh s0 = (1, 3)) (H_137_36 rec_14 fuL v1 v2 v3 v5 s0 0 ((wr h s0 5 v4)))
theorem r_137_24 {X : GX} {d : Nat} {r : Int32 × Hp} (hd : 7 ≤ d) (hq : RtX X (some (.int r.1)) r.2) {rec_14 : Int32 → Int32 → Int32 → Int32 → Int32 → Hp → Option (Int32 × Hp)} (hr_14 : ∀ {v1 : Int32} {v2 : Int32} {v3 : Int32} {v4 : Int32} {v5 : Int32} {h : Hp}, rec_14 v1 v2 v3 v4 v5 h = some r → G X d 137 14 [some (.ref 31), some (.int v1), some (.int v2), some (.int v3), some (.int v4), some (.int v5), none, none] [] h) {h : Hp} {v1 : Int32} {v2 : Int32} {v3 : Int32} {v4 : Int32} {v5 : Int32} {s0 : Nat} (e : R_137_24 rec_14 v1 v2 v3 v4 v5 s0 h = some r) : G X d 137 24 [some (.ref 31), some (.int v1), some (.int v2), some (.int v3), some (.int v4), some (.int v5), none, none] [.ref s0] h := by
  unfold R_137_24 at e
  have g := gd_s e; clear e; obtain ⟨o0, e⟩ := g
  exact k_137_24 o0 (h_137_36 hd hq hr_14 e)
noncomputable def R_137_20 (rec_14 : Int32 → Int32 → Int32 → Int32 → Int32 → Hp → Option (Int32 × Hp)) (v1 : Int32) (v2 : Int32) (v3 : Int32) (v4 : Int32) (v5 : Int32) (h : Hp) : Option (Int32 × Hp) := bndR (S_87 h) (R_137_24 rec_14 v1 v2 v3 v4 v5)
theorem r_137_20 {X : GX} {d : Nat} {r : Int32 × Hp} (hd : 7 ≤ d) (hq : RtX X (some (.int r.1)) r.2) {rec_14 : Int32 → Int32 → Int32 → Int32 → Int32 → Hp → Option (Int32 × Hp)} (hr_14 : ∀ {v1 : Int32} {v2 : Int32} {v3 : Int32} {v4 : Int32} {v5 : Int32} {h : Hp}, rec_14 v1 v2 v3 v4 v5 h = some r → G X d 137 14 [some (.ref 31), some (.int v1), some (.int v2), some (.int v3), some (.int v4), some (.int v5), none, none] [] h) {h : Hp} {v1 : Int32} {v2 : Int32} {v3 : Int32} {v4 : Int32} {v5 : Int32} (e : R_137_20 rec_14 v1 v2 v3 v4 v5 h = some r) : G X d 137 20 [some (.ref 31), some (.int v1), some (.int v2), some (.int v3), some (.int v4), some (.int v5), none, none] [] h := by
  unfold R_137_20 at e
  obtain ⟨x, h2, e1, e2⟩ := bndR_s e
  refine k_137_20 (by omega) (t_87 e1) ?_
  rintro _ _ ⟨rfl, rfl⟩
  exact r_137_24 hd hq hr_14 e2
noncomputable def R_137_14 (rec_14 : Int32 → Int32 → Int32 → Int32 → Int32 → Hp → Option (Int32 × Hp)) (v1 : Int32) (v2 : Int32) (v3 : Int32) (v4 : Int32) (v5 : Int32) (h : Hp) : Option (Int32 × Hp) := if v1 ≤ v5 then R_137_104 v3 h else R_137_20 rec_14 v1 v2 v3 v4 v5 h
theorem r_137_14 {X : GX} {d : Nat} {r : Int32 × Hp} (hd : 7 ≤ d) (hq : RtX X (some (.int r.1)) r.2) {rec_14 : Int32 → Int32 → Int32 → Int32 → Int32 → Hp → Option (Int32 × Hp)} (hr_14 : ∀ {v1 : Int32} {v2 : Int32} {v3 : Int32} {v4 : Int32} {v5 : Int32} {h : Hp}, rec_14 v1 v2 v3 v4 v5 h = some r → G X d 137 14 [some (.ref 31), some (.int v1), some (.int v2), some (.int v3), some (.int v4), some (.int v5), none, none] [] h) {h : Hp} {v1 : Int32} {v2 : Int32} {v3 : Int32} {v4 : Int32} {v5 : Int32} (e : R_137_14 rec_14 v1 v2 v3 v4 v5 h = some r) : G X d 137 14 [some (.ref 31), some (.int v1), some (.int v2), some (.int v3), some (.int v4), some (.int v5), none, none] [] h := by
  unfold R_137_14 at e
  refine k_137_14 (fun c => ?_) (fun c => ?_)
  · rw [if_pos c] at e; exact r_137_104 hd hq e
  · rw [if_neg c] at e; exact r_137_20 hd hq hr_14 e
noncomputable def H_137_14 : Nat → Int32 → Int32 → Int32 → Int32 → Int32 → Hp → Option (Int32 × Hp)
  | 0, _, _, _, _, _, _ => none
  | n + 1, v1, v2, v3, v4, v5, h => R_137_14 (H_137_14 n) v1 v2 v3 v4 v5 h
theorem h_137_14 {X : GX} {d : Nat} {r : Int32 × Hp} (hd : 7 ≤ d) (hq : RtX X (some (.int r.1)) r.2) {n : Nat} {h : Hp} {v1 : Int32} {v2 : Int32} {v3 : Int32} {v4 : Int32} {v5 : Int32} (e : H_137_14 n v1 v2 v3 v4 v5 h = some r) : G X d 137 14 [some (.ref 31), some (.int v1), some (.int v2), some (.int v3), some (.int v4), some (.int v5), none, none] [] h := by
  induction n generalizing v1 v2 v3 v4 v5 h with
  | zero => cases e
  | succ n ih => exact r_137_14 hd hq (fun e => ih e) e
noncomputable def R_137_0 (v1 : Int32) (v2 : Int32) (h : Hp) : Option (Int32 × Hp) := H_137_14 fuL v1 v2 0 (h 13 5) 0 h
theorem r_137_0 {X : GX} {d : Nat} {r : Int32 × Hp} (hd : 7 ≤ d) (hq : RtX X (some (.int r.1)) r.2) {h : Hp} {v1 : Int32} {v2 : Int32} (e : R_137_0 v1 v2 h = some r) : G X d 137 0 [some (.ref 31), some (.int v1), some (.int v2), none, none, none, none, none] [] h := by
  unfold R_137_0 at e
  exact k_137_0 (h_137_14 hd hq e)
noncomputable def S_137 (v1 : Int32) (v2 : Int32) (h : Hp) : Option (Int32 × Hp) := R_137_0 v1 v2 h
set_option maxRecDepth 100000 in
theorem t_137 {v1 : Int32} {v2 : Int32} {h : Hp} {r : Int32 × Hp} (e : S_137 v1 v2 h = some r) : CI 7 137 [.ref 31, .int v1, .int v2] h (fun x g => x = r.1 ∧ g = r.2) := by
  refine C.of mo_137 (Nat.le_of_ble_eq_true rfl) (fun X hq => ?_)
  exact r_137_0 (Nat.le_refl _) (hq _ _ ⟨_, rfl, rfl, rfl⟩) e
/-! 136 PlayedTruth.times(II)I -/
noncomputable def R_136_21 (h : Hp) : Option (Int32 × Hp) := some (((-1)), h)
theorem r_136_21 {X : GX} {d : Nat} {r : Int32 × Hp} (hd : 8 ≤ d) (hq : RtX X (some (.int r.1)) r.2) {h : Hp} (e : R_136_21 h = some r) : G X d 136 21 [none, none, none] [] h := by
  unfold R_136_21 at e
  rw [← Option.some.inj e] at hq
  exact k_136_21 hq
noncomputable def R_136_32 (s0 : Int32) (h : Hp) : Option (Int32 × Hp) := some (s0, h)
theorem r_136_32 {X : GX} {d : Nat} {r : Int32 × Hp} (hd : 8 ≤ d) (hq : RtX X (some (.int r.1)) r.2) {h : Hp} {s0 : Int32} (e : R_136_32 s0 h = some r) : G X d 136 32 [none, none, none] [.int s0] h := by
  unfold R_136_32 at e
  rw [← Option.some.inj e] at hq
  exact k_136_32 hq
noncomputable def R_136_23 (v1 : Int32) (v2 : Int32) (h : Hp) : Option (Int32 × Hp) := bndI (S_137 v1 v2 h) (R_136_32)
theorem r_136_23 {X : GX} {d : Nat} {r : Int32 × Hp} (hd : 8 ≤ d) (hq : RtX X (some (.int r.1)) r.2) {h : Hp} {v1 : Int32} {v2 : Int32} (e : R_136_23 v1 v2 h = some r) : G X d 136 23 [some (.ref 0), some (.int v1), some (.int v2)] [] h := by
  unfold R_136_23 at e
  obtain ⟨x, h2, e1, e2⟩ := bndI_s e
  refine k_136_23 (by omega) (t_137 e1) ?_
  rintro _ _ ⟨rfl, rfl⟩
  exact r_136_32 hd hq e2
noncomputable def R_136_18 (v1 : Int32) (v2 : Int32) (s0 : Int32) (h : Hp) : Option (Int32 × Hp) := if s0 = 0 then R_136_21 h else R_136_23 v1 v2 h
theorem r_136_18 {X : GX} {d : Nat} {r : Int32 × Hp} (hd : 8 ≤ d) (hq : RtX X (some (.int r.1)) r.2) {h : Hp} {v1 : Int32} {v2 : Int32} {s0 : Int32} (e : R_136_18 v1 v2 s0 h = some r) : G X d 136 18 [some (.ref 0), some (.int v1), some (.int v2)] [.int s0] h := by
  unfold R_136_18 at e
  refine k_136_18 (fun c => ?_) (fun c => ?_)
  · rw [if_neg c] at e; exact r_136_23 hd hq e
  · rw [if_pos c] at e; exact r_136_21 hd hq e
noncomputable def R_136_10 (v1 : Int32) (v2 : Int32) (h : Hp) : Option (Int32 × Hp) := bndI (S_11 v2 0 999 h) (R_136_18 v1 v2)
theorem r_136_10 {X : GX} {d : Nat} {r : Int32 × Hp} (hd : 8 ≤ d) (hq : RtX X (some (.int r.1)) r.2) {h : Hp} {v1 : Int32} {v2 : Int32} (e : R_136_10 v1 v2 h = some r) : G X d 136 10 [some (.ref 0), some (.int v1), some (.int v2)] [] h := by
  unfold R_136_10 at e
  obtain ⟨x, h2, e1, e2⟩ := bndI_s e
  refine k_136_10 (by omega) (t_11 e1) ?_
  rintro _ _ ⟨rfl, rfl⟩
  exact r_136_18 hd hq e2
noncomputable def R_136_7 (v1 : Int32) (v2 : Int32) (s0 : Int32) (h : Hp) : Option (Int32 × Hp) := if s0 = 0 then R_136_21 h else R_136_10 v1 v2 h
theorem r_136_7 {X : GX} {d : Nat} {r : Int32 × Hp} (hd : 8 ≤ d) (hq : RtX X (some (.int r.1)) r.2) {h : Hp} {v1 : Int32} {v2 : Int32} {s0 : Int32} (e : R_136_7 v1 v2 s0 h = some r) : G X d 136 7 [some (.ref 0), some (.int v1), some (.int v2)] [.int s0] h := by
  unfold R_136_7 at e
  refine k_136_7 (fun c => ?_) (fun c => ?_)
  · rw [if_pos c] at e; exact r_136_21 hd hq e
  · rw [if_neg c] at e; exact r_136_10 hd hq e
noncomputable def R_136_0 (v1 : Int32) (v2 : Int32) (h : Hp) : Option (Int32 × Hp) := bndI (S_11 v1 1 40 h) (R_136_7 v1 v2)
theorem r_136_0 {X : GX} {d : Nat} {r : Int32 × Hp} (hd : 8 ≤ d) (hq : RtX X (some (.int r.1)) r.2) {h : Hp} {v1 : Int32} {v2 : Int32} (e : R_136_0 v1 v2 h = some r) : G X d 136 0 [some (.ref 0), some (.int v1), some (.int v2)] [] h := by
  unfold R_136_0 at e
  obtain ⟨x, h2, e1, e2⟩ := bndI_s e
  refine k_136_0 (by omega) (t_11 e1) ?_
  rintro _ _ ⟨rfl, rfl⟩
  exact r_136_7 hd hq e2
noncomputable def S_136 (v1 : Int32) (v2 : Int32) (h : Hp) : Option (Int32 × Hp) := R_136_0 v1 v2 h
set_option maxRecDepth 100000 in
theorem t_136 {v1 : Int32} {v2 : Int32} {h : Hp} {r : Int32 × Hp} (e : S_136 v1 v2 h = some r) : CI 8 136 [.ref 0, .int v1, .int v2] h (fun x g => x = r.1 ∧ g = r.2) := by
  refine C.of mo_136 (Nat.le_of_ble_eq_true rfl) (fun X hq => ?_)
  exact r_136_0 (Nat.le_refl _) (hq _ _ ⟨_, rfl, rfl, rfl⟩) e
/-! 139 PlayedTruth$Ahead.writeRows([I)V -/
noncomputable def R_139_64 (h : Hp) : Option (Int32 × Hp) := some (0, h)
theorem r_139_64 {X : GX} {d : Nat} {r : Int32 × Hp} (hd : 6 ≤ d) (hq : RtX X none r.2) {h : Hp} (e : R_139_64 h = some r) : G X d 139 64 [none, none, none, none] [] h := by
  unfold R_139_64 at e
  rw [← Option.some.inj e] at hq
  exact k_139_64 hq
noncomputable def R_139_46 (rec_7 : Nat → Nat → Int32 → Hp → Option (Int32 × Hp)) (v1 : Nat) (v2 : Nat) (v3 : Int32) (s1 : Int32) (s2 : Nat) (s0 : Int32) (h : Hp) : Option (Int32 × Hp) := gd (IA s2 s1 ∧ sh v2 = (1, 3) ∧ IA v1 ((v3 * 3) + 2)) (rec_7 v1 v2 (v3 + 1) ((wr (wr h s2 (Int32.toNatClampNeg s1) s0) v1 (Int32.toNatClampNeg ((v3 * 3) + 2)) ((wr h s2 (Int32.toNatClampNeg s1) s0) v2 2))))
theorem r_139_46 {X : GX} {d : Nat} {r : Int32 × Hp} (hd : 6 ≤ d) (hq : RtX X none r.2) {rec_7 : Nat → Nat → Int32 → Hp → Option (Int32 × Hp)} (hr_7 : ∀ {v1 : Nat} {v2 : Nat} {v3 : Int32} {h : Hp}, rec_7 v1 v2 v3 h = some r → G X d 139 7 [some (.ref 31), some (.ref v1), some (.ref v2), some (.int v3)] [] h) {h : Hp} {v1 : Nat} {v2 : Nat} {v3 : Int32} {s1 : Int32} {s2 : Nat} {s0 : Int32} (e : R_139_46 rec_7 v1 v2 v3 s1 s2 s0 h = some r) : G X d 139 46 [some (.ref 31), some (.ref v1), some (.ref v2), some (.int v3)] [.int s0, .int s1, .ref s2] h := by
  unfold R_139_46 at e
  have g := gd_s e; clear e; obtain ⟨⟨b0, o1, b2⟩, e⟩ := g
  exact k_139_46 b0 o1 b2 (hr_7 e)
noncomputable def R_139_15 (rec_7 : Nat → Nat → Int32 → Hp → Option (Int32 × Hp)) (v1 : Nat) (v2 : Nat) (v3 : Int32) (h : Hp) : Option (Int32 × Hp) := gd (IA 34 v3 ∧ IA v1 (v3 * 3)) (bndI (S_81 v2 ((wr h v1 (Int32.toNatClampNeg (v3 * 3)) (h 34 (Int32.toNatClampNeg v3))) 34 (Int32.toNatClampNeg v3)) ((wr h v1 (Int32.toNatClampNeg (v3 * 3)) (h 34 (Int32.toNatClampNeg v3))))) (R_139_46 rec_7 v1 v2 v3 ((v3 * 3) + 1) v1))
theorem r_139_15 {X : GX} {d : Nat} {r : Int32 × Hp} (hd : 6 ≤ d) (hq : RtX X none r.2) {rec_7 : Nat → Nat → Int32 → Hp → Option (Int32 × Hp)} (hr_7 : ∀ {v1 : Nat} {v2 : Nat} {v3 : Int32} {h : Hp}, rec_7 v1 v2 v3 h = some r → G X d 139 7 [some (.ref 31), some (.ref v1), some (.ref v2), some (.int v3)] [] h) {h : Hp} {v1 : Nat} {v2 : Nat} {v3 : Int32} (e : R_139_15 rec_7 v1 v2 v3 h = some r) : G X d 139 15 [some (.ref 31), some (.ref v1), some (.ref v2), some (.int v3)] [] h := by
  unfold R_139_15 at e
  have g := gd_s e; clear e; obtain ⟨⟨b0, b1⟩, e⟩ := g
  obtain ⟨x, h2, e1, e2⟩ := bndI_s e
  refine k_139_15 b0 b1 (by omega) (t_81 e1) ?_
  rintro _ _ ⟨rfl, rfl⟩
  exact r_139_46 hd hq hr_7 e2
noncomputable def R_139_7 (rec_7 : Nat → Nat → Int32 → Hp → Option (Int32 × Hp)) (v1 : Nat) (v2 : Nat) (v3 : Int32) (h : Hp) : Option (Int32 × Hp) := if (h 31 5) ≤ v3 then R_139_64 h else R_139_15 rec_7 v1 v2 v3 h
theorem r_139_7 {X : GX} {d : Nat} {r : Int32 × Hp} (hd : 6 ≤ d) (hq : RtX X none r.2) {rec_7 : Nat → Nat → Int32 → Hp → Option (Int32 × Hp)} (hr_7 : ∀ {v1 : Nat} {v2 : Nat} {v3 : Int32} {h : Hp}, rec_7 v1 v2 v3 h = some r → G X d 139 7 [some (.ref 31), some (.ref v1), some (.ref v2), some (.int v3)] [] h) {h : Hp} {v1 : Nat} {v2 : Nat} {v3 : Int32} (e : R_139_7 rec_7 v1 v2 v3 h = some r) : G X d 139 7 [some (.ref 31), some (.ref v1), some (.ref v2), some (.int v3)] [] h := by
  unfold R_139_7 at e
  refine k_139_7 (fun c => ?_) (fun c => ?_)
  · rw [if_pos c] at e; exact r_139_64 hd hq e
  · rw [if_neg c] at e; exact r_139_15 hd hq hr_7 e
noncomputable def H_139_7 : Nat → Nat → Nat → Int32 → Hp → Option (Int32 × Hp)
  | 0, _, _, _, _ => none
  | n + 1, v1, v2, v3, h => R_139_7 (H_139_7 n) v1 v2 v3 h
theorem h_139_7 {X : GX} {d : Nat} {r : Int32 × Hp} (hd : 6 ≤ d) (hq : RtX X none r.2) {n : Nat} {h : Hp} {v1 : Nat} {v2 : Nat} {v3 : Int32} (e : H_139_7 n v1 v2 v3 h = some r) : G X d 139 7 [some (.ref 31), some (.ref v1), some (.ref v2), some (.int v3)] [] h := by
  induction n generalizing v1 v2 v3 h with
  | zero => cases e
  | succ n ih => exact r_139_7 hd hq (fun e => ih e) e
noncomputable def R_139_4 (v1 : Nat) (s0 : Nat) (h : Hp) : Option (Int32 × Hp) := H_139_7 fuL v1 s0 0 h
theorem r_139_4 {X : GX} {d : Nat} {r : Int32 × Hp} (hd : 6 ≤ d) (hq : RtX X none r.2) {h : Hp} {v1 : Nat} {s0 : Nat} (e : R_139_4 v1 s0 h = some r) : G X d 139 4 [some (.ref 31), some (.ref v1), none, none] [.ref s0] h := by
  unfold R_139_4 at e
  exact k_139_4 (h_139_7 hd hq e)
noncomputable def R_139_0 (v1 : Nat) (h : Hp) : Option (Int32 × Hp) := bndR (S_87 h) (R_139_4 v1)
theorem r_139_0 {X : GX} {d : Nat} {r : Int32 × Hp} (hd : 6 ≤ d) (hq : RtX X none r.2) {h : Hp} {v1 : Nat} (e : R_139_0 v1 h = some r) : G X d 139 0 [some (.ref 31), some (.ref v1), none, none] [] h := by
  unfold R_139_0 at e
  obtain ⟨x, h2, e1, e2⟩ := bndR_s e
  refine k_139_0 (by omega) (t_87 e1) ?_
  rintro _ _ ⟨rfl, rfl⟩
  exact r_139_4 hd hq e2
noncomputable def S_139 (v1 : Nat) (h : Hp) : Option (Int32 × Hp) := R_139_0 v1 h
set_option maxRecDepth 100000 in
theorem t_139 {v1 : Nat} {h : Hp} {r : Int32 × Hp} (e : S_139 v1 h = some r) : CV 6 139 [.ref 31, .ref v1] h (fun g => g = r.2) := by
  refine C.of mo_139 (Nat.le_of_ble_eq_true rfl) (fun X hq => ?_)
  exact r_139_0 (Nat.le_refl _) (hq _ _ ⟨rfl, rfl⟩) e
/-! 138 PlayedTruth.prove(I)I -/
noncomputable def R_138_29 (h : Hp) : Option (Int32 × Hp) := some (((wr h 0 8 (h 31 5)) 0 8), (wr h 0 8 (h 31 5)))
theorem r_138_29 {X : GX} {d : Nat} {r : Int32 × Hp} (hd : 68 ≤ d) (hq : RtX X (some (.int r.1)) r.2) {h : Hp} (e : R_138_29 h = some r) : G X d 138 29 [some (.ref 0), none] [] h := by
  unfold R_138_29 at e
  rw [← Option.some.inj e] at hq
  exact k_138_29 hq
noncomputable def R_138_18 (h : Hp) : Option (Int32 × Hp) := bndV (S_139 63 h) (R_138_29)
theorem r_138_18 {X : GX} {d : Nat} {r : Int32 × Hp} (hd : 68 ≤ d) (hq : RtX X (some (.int r.1)) r.2) {h : Hp} (e : R_138_18 h = some r) : G X d 138 18 [some (.ref 0), none] [] h := by
  unfold R_138_18 at e
  obtain ⟨x, h2, e1, e2⟩ := bndV_s e
  refine k_138_18 (by omega) (t_139 e1) ?_
  rintro _ rfl
  exact r_138_29 hd hq e2
noncomputable def R_138_9 (v1 : Int32) (h : Hp) : Option (Int32 × Hp) := bndV (S_109 v1 0 h) (R_138_18)
theorem r_138_9 {X : GX} {d : Nat} {r : Int32 × Hp} (hd : 68 ≤ d) (hq : RtX X (some (.int r.1)) r.2) {h : Hp} {v1 : Int32} (e : R_138_9 v1 h = some r) : G X d 138 9 [some (.ref 0), some (.int v1)] [] h := by
  unfold R_138_9 at e
  obtain ⟨x, h2, e1, e2⟩ := bndV_s e
  refine k_138_9 (by omega) (t_109 e1) ?_
  rintro _ rfl
  exact r_138_18 hd hq e2
noncomputable def R_138_7 (h : Hp) : Option (Int32 × Hp) := some (((-1)), h)
theorem r_138_7 {X : GX} {d : Nat} {r : Int32 × Hp} (hd : 68 ≤ d) (hq : RtX X (some (.int r.1)) r.2) {h : Hp} (e : R_138_7 h = some r) : G X d 138 7 [none, none] [] h := by
  unfold R_138_7 at e
  rw [← Option.some.inj e] at hq
  exact k_138_7 hq
noncomputable def R_138_4 (v1 : Int32) (s0 : Int32) (h : Hp) : Option (Int32 × Hp) := if s0 = 0 then R_138_7 h else R_138_9 v1 h
theorem r_138_4 {X : GX} {d : Nat} {r : Int32 × Hp} (hd : 68 ≤ d) (hq : RtX X (some (.int r.1)) r.2) {h : Hp} {v1 : Int32} {s0 : Int32} (e : R_138_4 v1 s0 h = some r) : G X d 138 4 [some (.ref 0), some (.int v1)] [.int s0] h := by
  unfold R_138_4 at e
  refine k_138_4 (fun c => ?_) (fun c => ?_)
  · rw [if_neg c] at e; exact r_138_9 hd hq e
  · rw [if_pos c] at e; exact r_138_7 hd hq e
noncomputable def R_138_0 (v1 : Int32) (h : Hp) : Option (Int32 × Hp) := bndI (S_108 v1 h) (R_138_4 v1)
theorem r_138_0 {X : GX} {d : Nat} {r : Int32 × Hp} (hd : 68 ≤ d) (hq : RtX X (some (.int r.1)) r.2) {h : Hp} {v1 : Int32} (e : R_138_0 v1 h = some r) : G X d 138 0 [some (.ref 0), some (.int v1)] [] h := by
  unfold R_138_0 at e
  obtain ⟨x, h2, e1, e2⟩ := bndI_s e
  refine k_138_0 (by omega) (t_108 e1) ?_
  rintro _ _ ⟨rfl, rfl⟩
  exact r_138_4 hd hq e2
noncomputable def S_138 (v1 : Int32) (h : Hp) : Option (Int32 × Hp) := R_138_0 v1 h
set_option maxRecDepth 100000 in
theorem t_138 {v1 : Int32} {h : Hp} {r : Int32 × Hp} (e : S_138 v1 h = some r) : CI 68 138 [.ref 0, .int v1] h (fun x g => x = r.1 ∧ g = r.2) := by
  refine C.of mo_138 (Nat.le_of_ble_eq_true rfl) (fun X hq => ?_)
  exact r_138_0 (Nat.le_refl _) (hq _ _ ⟨_, rfl, rfl, rfl⟩) e
/-! 141 PlayedTruth.isInRow(II)Z -/
noncomputable def R_141_27 (h : Hp) : Option (Int32 × Hp) := some (0, h)
theorem r_141_27 {X : GX} {d : Nat} {r : Int32 × Hp} (hd : 2 ≤ d) (hq : RtX X (some (.int r.1)) r.2) {h : Hp} (e : R_141_27 h = some r) : G X d 141 27 [none, none, none] [] h := by
  unfold R_141_27 at e
  rw [← Option.some.inj e] at hq
  exact k_141_27 hq
noncomputable def R_141_23 (h : Hp) : Option (Int32 × Hp) := some (1, h)
theorem r_141_23 {X : GX} {d : Nat} {r : Int32 × Hp} (hd : 2 ≤ d) (hq : RtX X (some (.int r.1)) r.2) {h : Hp} (e : R_141_23 h = some r) : G X d 141 23 [none, none, none] [] h := by
  unfold R_141_23 at e
  rw [← Option.some.inj e] at hq
  exact k_141_23 hq
noncomputable def R_141_20 (s0 : Int32) (h : Hp) : Option (Int32 × Hp) := if s0 = 0 then R_141_27 h else R_141_23 h
theorem r_141_20 {X : GX} {d : Nat} {r : Int32 × Hp} (hd : 2 ≤ d) (hq : RtX X (some (.int r.1)) r.2) {h : Hp} {s0 : Int32} (e : R_141_20 s0 h = some r) : G X d 141 20 [none, none, none] [.int s0] h := by
  unfold R_141_20 at e
  refine k_141_20 (fun c => ?_) (fun c => ?_)
  · rw [if_pos c] at e; exact r_141_27 hd hq e
  · rw [if_neg c] at e; exact r_141_23 hd hq e
noncomputable def R_141_14 (v2 : Int32) (h : Hp) : Option (Int32 × Hp) := bndI (S_11 v2 0 2 h) (R_141_20)
theorem r_141_14 {X : GX} {d : Nat} {r : Int32 × Hp} (hd : 2 ≤ d) (hq : RtX X (some (.int r.1)) r.2) {h : Hp} {v2 : Int32} (e : R_141_14 v2 h = some r) : G X d 141 14 [none, none, some (.int v2)] [] h := by
  unfold R_141_14 at e
  obtain ⟨x, h2, e1, e2⟩ := bndI_s e
  refine k_141_14 (by omega) (t_11 e1) ?_
  rintro _ _ ⟨rfl, rfl⟩
  exact r_141_20 hd hq e2
noncomputable def R_141_11 (v2 : Int32) (s0 : Int32) (h : Hp) : Option (Int32 × Hp) := if s0 = 0 then R_141_27 h else R_141_14 v2 h
theorem r_141_11 {X : GX} {d : Nat} {r : Int32 × Hp} (hd : 2 ≤ d) (hq : RtX X (some (.int r.1)) r.2) {h : Hp} {v2 : Int32} {s0 : Int32} (e : R_141_11 v2 s0 h = some r) : G X d 141 11 [none, none, some (.int v2)] [.int s0] h := by
  unfold R_141_11 at e
  refine k_141_11 (fun c => ?_) (fun c => ?_)
  · rw [if_pos c] at e; exact r_141_27 hd hq e
  · rw [if_neg c] at e; exact r_141_14 hd hq e
noncomputable def R_141_0 (v1 : Int32) (v2 : Int32) (h : Hp) : Option (Int32 × Hp) := bndI (S_11 v1 0 ((h 0 8) - 1) h) (R_141_11 v2)
theorem r_141_0 {X : GX} {d : Nat} {r : Int32 × Hp} (hd : 2 ≤ d) (hq : RtX X (some (.int r.1)) r.2) {h : Hp} {v1 : Int32} {v2 : Int32} (e : R_141_0 v1 v2 h = some r) : G X d 141 0 [some (.ref 0), some (.int v1), some (.int v2)] [] h := by
  unfold R_141_0 at e
  obtain ⟨x, h2, e1, e2⟩ := bndI_s e
  refine k_141_0 (by omega) (t_11 e1) ?_
  rintro _ _ ⟨rfl, rfl⟩
  exact r_141_11 hd hq e2
noncomputable def S_141 (v1 : Int32) (v2 : Int32) (h : Hp) : Option (Int32 × Hp) := R_141_0 v1 v2 h
set_option maxRecDepth 100000 in
theorem t_141 {v1 : Int32} {v2 : Int32} {h : Hp} {r : Int32 × Hp} (e : S_141 v1 v2 h = some r) : CI 2 141 [.ref 0, .int v1, .int v2] h (fun x g => x = r.1 ∧ g = r.2) := by
  refine C.of mo_141 (Nat.le_of_ble_eq_true rfl) (fun X hq => ?_)
  exact r_141_0 (Nat.le_refl _) (hq _ _ ⟨_, rfl, rfl, rfl⟩) e
/-! 140 PlayedTruth.row(II)I -/
noncomputable def R_140_22 (h : Hp) : Option (Int32 × Hp) := some (((-9)), h)
theorem r_140_22 {X : GX} {d : Nat} {r : Int32 × Hp} (hd : 3 ≤ d) (hq : RtX X (some (.int r.1)) r.2) {h : Hp} (e : R_140_22 h = some r) : G X d 140 22 [none, none, none] [] h := by
  unfold R_140_22 at e
  rw [← Option.some.inj e] at hq
  exact k_140_22 hq
noncomputable def R_140_9 (v1 : Int32) (v2 : Int32) (h : Hp) : Option (Int32 × Hp) := gd (IA 63 ((v1 * 3) + v2)) (some ((h 63 (Int32.toNatClampNeg ((v1 * 3) + v2))), h))
theorem r_140_9 {X : GX} {d : Nat} {r : Int32 × Hp} (hd : 3 ≤ d) (hq : RtX X (some (.int r.1)) r.2) {h : Hp} {v1 : Int32} {v2 : Int32} (e : R_140_9 v1 v2 h = some r) : G X d 140 9 [some (.ref 0), some (.int v1), some (.int v2)] [] h := by
  unfold R_140_9 at e
  have g := gd_s e; clear e; obtain ⟨b0, e⟩ := g
  rw [← Option.some.inj e] at hq
  exact k_140_9 b0 hq
noncomputable def R_140_6 (v1 : Int32) (v2 : Int32) (s0 : Int32) (h : Hp) : Option (Int32 × Hp) := if s0 = 0 then R_140_22 h else R_140_9 v1 v2 h
theorem r_140_6 {X : GX} {d : Nat} {r : Int32 × Hp} (hd : 3 ≤ d) (hq : RtX X (some (.int r.1)) r.2) {h : Hp} {v1 : Int32} {v2 : Int32} {s0 : Int32} (e : R_140_6 v1 v2 s0 h = some r) : G X d 140 6 [some (.ref 0), some (.int v1), some (.int v2)] [.int s0] h := by
  unfold R_140_6 at e
  refine k_140_6 (fun c => ?_) (fun c => ?_)
  · rw [if_pos c] at e; exact r_140_22 hd hq e
  · rw [if_neg c] at e; exact r_140_9 hd hq e
noncomputable def R_140_0 (v1 : Int32) (v2 : Int32) (h : Hp) : Option (Int32 × Hp) := bndI (S_141 v1 v2 h) (R_140_6 v1 v2)
theorem r_140_0 {X : GX} {d : Nat} {r : Int32 × Hp} (hd : 3 ≤ d) (hq : RtX X (some (.int r.1)) r.2) {h : Hp} {v1 : Int32} {v2 : Int32} (e : R_140_0 v1 v2 h = some r) : G X d 140 0 [some (.ref 0), some (.int v1), some (.int v2)] [] h := by
  unfold R_140_0 at e
  obtain ⟨x, h2, e1, e2⟩ := bndI_s e
  refine k_140_0 (by omega) (t_141 e1) ?_
  rintro _ _ ⟨rfl, rfl⟩
  exact r_140_6 hd hq e2
noncomputable def S_140 (v1 : Int32) (v2 : Int32) (h : Hp) : Option (Int32 × Hp) := R_140_0 v1 v2 h
set_option maxRecDepth 100000 in
theorem t_140 {v1 : Int32} {v2 : Int32} {h : Hp} {r : Int32 × Hp} (e : S_140 v1 v2 h = some r) : CI 3 140 [.ref 0, .int v1, .int v2] h (fun x g => x = r.1 ∧ g = r.2) := by
  refine C.of mo_140 (Nat.le_of_ble_eq_true rfl) (fun X hq => ?_)
  exact r_140_0 (Nat.le_refl _) (hq _ _ ⟨_, rfl, rfl, rfl⟩) e
/-! 142 PlayedTruth.alterRow(III)I -/
noncomputable def R_142_25 (h : Hp) : Option (Int32 × Hp) := some (((-9)), h)
theorem r_142_25 {X : GX} {d : Nat} {r : Int32 × Hp} (hd : 3 ≤ d) (hq : RtX X (some (.int r.1)) r.2) {h : Hp} (e : R_142_25 h = some r) : G X d 142 25 [none, none, none, none] [] h := by
  unfold R_142_25 at e
  rw [← Option.some.inj e] at hq
  exact k_142_25 hq
noncomputable def R_142_22 (s0 : Int32) (h : Hp) : Option (Int32 × Hp) := some (s0, h)
theorem r_142_22 {X : GX} {d : Nat} {r : Int32 × Hp} (hd : 3 ≤ d) (hq : RtX X (some (.int r.1)) r.2) {h : Hp} {s0 : Int32} (e : R_142_22 s0 h = some r) : G X d 142 22 [none, none, none, none] [.int s0] h := by
  unfold R_142_22 at e
  rw [← Option.some.inj e] at hq
  exact k_142_22 hq
noncomputable def R_142_9 (v1 : Int32) (v2 : Int32) (v3 : Int32) (h : Hp) : Option (Int32 × Hp) := bndI (S_29 63 ((v1 * 3) + v2) v3 h) (R_142_22)
theorem r_142_9 {X : GX} {d : Nat} {r : Int32 × Hp} (hd : 3 ≤ d) (hq : RtX X (some (.int r.1)) r.2) {h : Hp} {v1 : Int32} {v2 : Int32} {v3 : Int32} (e : R_142_9 v1 v2 v3 h = some r) : G X d 142 9 [some (.ref 0), some (.int v1), some (.int v2), some (.int v3)] [] h := by
  unfold R_142_9 at e
  obtain ⟨x, h2, e1, e2⟩ := bndI_s e
  refine k_142_9 (by omega) (t_29 e1) ?_
  rintro _ _ ⟨rfl, rfl⟩
  exact r_142_22 hd hq e2
noncomputable def R_142_6 (v1 : Int32) (v2 : Int32) (v3 : Int32) (s0 : Int32) (h : Hp) : Option (Int32 × Hp) := if s0 = 0 then R_142_25 h else R_142_9 v1 v2 v3 h
theorem r_142_6 {X : GX} {d : Nat} {r : Int32 × Hp} (hd : 3 ≤ d) (hq : RtX X (some (.int r.1)) r.2) {h : Hp} {v1 : Int32} {v2 : Int32} {v3 : Int32} {s0 : Int32} (e : R_142_6 v1 v2 v3 s0 h = some r) : G X d 142 6 [some (.ref 0), some (.int v1), some (.int v2), some (.int v3)] [.int s0] h := by
  unfold R_142_6 at e
  refine k_142_6 (fun c => ?_) (fun c => ?_)
  · rw [if_pos c] at e; exact r_142_25 hd hq e
  · rw [if_neg c] at e; exact r_142_9 hd hq e
noncomputable def R_142_0 (v1 : Int32) (v2 : Int32) (v3 : Int32) (h : Hp) : Option (Int32 × Hp) := bndI (S_141 v1 v2 h) (R_142_6 v1 v2 v3)
theorem r_142_0 {X : GX} {d : Nat} {r : Int32 × Hp} (hd : 3 ≤ d) (hq : RtX X (some (.int r.1)) r.2) {h : Hp} {v1 : Int32} {v2 : Int32} {v3 : Int32} (e : R_142_0 v1 v2 v3 h = some r) : G X d 142 0 [some (.ref 0), some (.int v1), some (.int v2), some (.int v3)] [] h := by
  unfold R_142_0 at e
  obtain ⟨x, h2, e1, e2⟩ := bndI_s e
  refine k_142_0 (by omega) (t_141 e1) ?_
  rintro _ _ ⟨rfl, rfl⟩
  exact r_142_6 hd hq e2
noncomputable def S_142 (v1 : Int32) (v2 : Int32) (v3 : Int32) (h : Hp) : Option (Int32 × Hp) := R_142_0 v1 v2 v3 h
set_option maxRecDepth 100000 in
theorem t_142 {v1 : Int32} {v2 : Int32} {v3 : Int32} {h : Hp} {r : Int32 × Hp} (e : S_142 v1 v2 v3 h = some r) : CI 3 142 [.ref 0, .int v1, .int v2, .int v3] h (fun x g => x = r.1 ∧ g = r.2) := by
  refine C.of mo_142 (Nat.le_of_ble_eq_true rfl) (fun X hq => ?_)
  exact r_142_0 (Nat.le_refl _) (hq _ _ ⟨_, rfl, rfl, rfl⟩) e
/-! 145 PlayedTruth$Stage.isAct(I)Z -/
noncomputable def R_145_16 (h : Hp) : Option (Int32 × Hp) := some (0, h)
theorem r_145_16 {X : GX} {d : Nat} {r : Int32 × Hp} (hd : 1 ≤ d) (hq : RtX X (some (.int r.1)) r.2) {h : Hp} (e : R_145_16 h = some r) : G X d 145 16 [none, none] [] h := by
  unfold R_145_16 at e
  rw [← Option.some.inj e] at hq
  exact k_145_16 hq
noncomputable def R_145_12 (h : Hp) : Option (Int32 × Hp) := some (1, h)
theorem r_145_12 {X : GX} {d : Nat} {r : Int32 × Hp} (hd : 1 ≤ d) (hq : RtX X (some (.int r.1)) r.2) {h : Hp} (e : R_145_12 h = some r) : G X d 145 12 [none, none] [] h := by
  unfold R_145_12 at e
  rw [← Option.some.inj e] at hq
  exact k_145_12 hq
noncomputable def R_145_4 (v1 : Int32) (h : Hp) : Option (Int32 × Hp) := if (h 1 7) < v1 then R_145_16 h else R_145_12 h
theorem r_145_4 {X : GX} {d : Nat} {r : Int32 × Hp} (hd : 1 ≤ d) (hq : RtX X (some (.int r.1)) r.2) {h : Hp} {v1 : Int32} (e : R_145_4 v1 h = some r) : G X d 145 4 [some (.ref 1), some (.int v1)] [] h := by
  unfold R_145_4 at e
  refine k_145_4 (fun c => ?_) (fun c => ?_)
  · rw [if_pos c] at e; exact r_145_16 hd hq e
  · rw [if_neg c] at e; exact r_145_12 hd hq e
noncomputable def R_145_0 (v1 : Int32) (h : Hp) : Option (Int32 × Hp) := if v1 < 0 then R_145_16 h else R_145_4 v1 h
theorem r_145_0 {X : GX} {d : Nat} {r : Int32 × Hp} (hd : 1 ≤ d) (hq : RtX X (some (.int r.1)) r.2) {h : Hp} {v1 : Int32} (e : R_145_0 v1 h = some r) : G X d 145 0 [some (.ref 1), some (.int v1)] [] h := by
  unfold R_145_0 at e
  refine k_145_0 (fun c => ?_) (fun c => ?_)
  · rw [if_pos c] at e; exact r_145_16 hd hq e
  · rw [if_neg c] at e; exact r_145_4 hd hq e
noncomputable def S_145 (v1 : Int32) (h : Hp) : Option (Int32 × Hp) := R_145_0 v1 h
set_option maxRecDepth 100000 in
theorem t_145 {v1 : Int32} {h : Hp} {r : Int32 × Hp} (e : S_145 v1 h = some r) : CI 1 145 [.ref 1, .int v1] h (fun x g => x = r.1 ∧ g = r.2) := by
  refine C.of mo_145 (Nat.le_of_ble_eq_true rfl) (fun X hq => ?_)
  exact r_145_0 (Nat.le_refl _) (hq _ _ ⟨_, rfl, rfl, rfl⟩) e
/-! 144 PlayedTruth$Ahead.firstWrongRow([II)I -/
noncomputable def R_144_101 (h : Hp) : Option (Int32 × Hp) := some (0, h)
theorem r_144_101 {X : GX} {d : Nat} {r : Int32 × Hp} (hd : 6 ≤ d) (hq : RtX X (some (.int r.1)) r.2) {h : Hp} (e : R_144_101 h = some r) : G X d 144 101 [none, none, none, none, none, none, none] [] h := by
  unfold R_144_101 at e
  rw [← Option.some.inj e] at hq
  exact k_144_101 hq
noncomputable def R_144_45 (v4 : Int32) (h : Hp) : Option (Int32 × Hp) := some ((v4 + 1), h)
theorem r_144_45 {X : GX} {d : Nat} {r : Int32 × Hp} (hd : 6 ≤ d) (hq : RtX X (some (.int r.1)) r.2) {h : Hp} {v4 : Int32} (e : R_144_45 v4 h = some r) : G X d 144 45 [none, none, none, none, some (.int v4), none, none] [] h := by
  unfold R_144_45 at e
  rw [← Option.some.inj e] at hq
  exact k_144_45 hq
noncomputable def R_144_90 (v4 : Int32) (h : Hp) : Option (Int32 × Hp) := some ((v4 + 1), h)
theorem r_144_90 {X : GX} {d : Nat} {r : Int32 × Hp} (hd : 6 ≤ d) (hq : RtX X (some (.int r.1)) r.2) {h : Hp} {v4 : Int32} (e : R_144_90 v4 h = some r) : G X d 144 90 [none, none, none, none, some (.int v4), none, none] [] h := by
  unfold R_144_90 at e
  rw [← Option.some.inj e] at hq
  exact k_144_90 hq
noncomputable def R_144_95 (rec_8 : Nat → Int32 → Nat → Int32 → Hp → Option (Int32 × Hp)) (v1 : Nat) (v2 : Int32) (v3 : Nat) (v4 : Int32) (h : Hp) : Option (Int32 × Hp) := rec_8 v1 v2 v3 (v4 + 1) h
theorem r_144_95 {X : GX} {d : Nat} {r : Int32 × Hp} (hd : 6 ≤ d) (hq : RtX X (some (.int r.1)) r.2) {rec_8 : Nat → Int32 → Nat → Int32 → Hp → Option (Int32 × Hp)} (hr_8 : ∀ {v1 : Nat} {v2 : Int32} {v3 : Nat} {v4 : Int32} {h : Hp}, rec_8 v1 v2 v3 v4 h = some r → G X d 144 8 [some (.ref 31), some (.ref v1), some (.int v2), some (.ref v3), some (.int v4), none, none] [] h) {h : Hp} {v1 : Nat} {v2 : Int32} {v3 : Nat} {v4 : Int32} (e : R_144_95 rec_8 v1 v2 v3 v4 h = some r) : G X d 144 95 [some (.ref 31), some (.ref v1), some (.int v2), some (.ref v3), some (.int v4), none, none] [] h := by
  unfold R_144_95 at e
  exact k_144_95 (hr_8 e)
noncomputable def R_144_75 (rec_8 : Nat → Int32 → Nat → Int32 → Hp → Option (Int32 × Hp)) (v1 : Nat) (v2 : Int32) (v3 : Nat) (v4 : Int32) (h : Hp) : Option (Int32 × Hp) := gd (IA v1 ((v4 * 3) + 2) ∧ sh v3 = (1, 3)) (if (h v1 (Int32.toNatClampNeg ((v4 * 3) + 2))) = (h v3 2) then R_144_95 rec_8 v1 v2 v3 v4 h else R_144_90 v4 h)
theorem r_144_75 {X : GX} {d : Nat} {r : Int32 × Hp} (hd : 6 ≤ d) (hq : RtX X (some (.int r.1)) r.2) {rec_8 : Nat → Int32 → Nat → Int32 → Hp → Option (Int32 × Hp)} (hr_8 : ∀ {v1 : Nat} {v2 : Int32} {v3 : Nat} {v4 : Int32} {h : Hp}, rec_8 v1 v2 v3 v4 h = some r → G X d 144 8 [some (.ref 31), some (.ref v1), some (.int v2), some (.ref v3), some (.int v4), none, none] [] h) {h : Hp} {v1 : Nat} {v2 : Int32} {v3 : Nat} {v4 : Int32} (e : R_144_75 rec_8 v1 v2 v3 v4 h = some r) : G X d 144 75 [some (.ref 31), some (.ref v1), some (.int v2), some (.ref v3), some (.int v4), none, none] [] h := by
  unfold R_144_75 at e
  have g := gd_s e; clear e; obtain ⟨⟨b0, o1⟩, e⟩ := g
  refine k_144_75 b0 o1 (fun c => ?_) (fun c => ?_)
  · rw [if_pos c] at e; exact r_144_95 hd hq hr_8 e
  · rw [if_neg c] at e; exact r_144_90 hd hq e
noncomputable def R_144_60 (rec_8 : Nat → Int32 → Nat → Int32 → Hp → Option (Int32 × Hp)) (v1 : Nat) (v2 : Int32) (v3 : Nat) (v4 : Int32) (s0 : Int32) (h : Hp) : Option (Int32 × Hp) := gd (IA v1 ((v4 * 3) + 1)) (if (h v1 (Int32.toNatClampNeg ((v4 * 3) + 1))) = s0 then R_144_75 rec_8 v1 v2 v3 v4 h else R_144_90 v4 h)
theorem r_144_60 {X : GX} {d : Nat} {r : Int32 × Hp} (hd : 6 ≤ d) (hq : RtX X (some (.int r.1)) r.2) {rec_8 : Nat → Int32 → Nat → Int32 → Hp → Option (Int32 × Hp)} (hr_8 : ∀ {v1 : Nat} {v2 : Int32} {v3 : Nat} {v4 : Int32} {h : Hp}, rec_8 v1 v2 v3 v4 h = some r → G X d 144 8 [some (.ref 31), some (.ref v1), some (.int v2), some (.ref v3), some (.int v4), none, none] [] h) {h : Hp} {v1 : Nat} {v2 : Int32} {v3 : Nat} {v4 : Int32} {s0 : Int32} (e : R_144_60 rec_8 v1 v2 v3 v4 s0 h = some r) : G X d 144 60 [some (.ref 31), some (.ref v1), some (.int v2), some (.ref v3), some (.int v4), none, none] [.int s0] h := by
  unfold R_144_60 at e
  have g := gd_s e; clear e; obtain ⟨b0, e⟩ := g
  refine k_144_60 b0 (fun c => ?_) (fun c => ?_)
  · rw [if_neg c] at e; exact r_144_90 hd hq e
  · rw [if_pos c] at e; exact r_144_75 hd hq hr_8 e
noncomputable def R_144_50 (rec_8 : Nat → Int32 → Nat → Int32 → Hp → Option (Int32 × Hp)) (v1 : Nat) (v2 : Int32) (v3 : Nat) (v4 : Int32) (v5 : Int32) (h : Hp) : Option (Int32 × Hp) := bndI (S_81 v3 v5 h) (R_144_60 rec_8 v1 v2 v3 v4)
theorem r_144_50 {X : GX} {d : Nat} {r : Int32 × Hp} (hd : 6 ≤ d) (hq : RtX X (some (.int r.1)) r.2) {rec_8 : Nat → Int32 → Nat → Int32 → Hp → Option (Int32 × Hp)} (hr_8 : ∀ {v1 : Nat} {v2 : Int32} {v3 : Nat} {v4 : Int32} {h : Hp}, rec_8 v1 v2 v3 v4 h = some r → G X d 144 8 [some (.ref 31), some (.ref v1), some (.int v2), some (.ref v3), some (.int v4), none, none] [] h) {h : Hp} {v1 : Nat} {v2 : Int32} {v3 : Nat} {v4 : Int32} {v5 : Int32} (e : R_144_50 rec_8 v1 v2 v3 v4 v5 h = some r) : G X d 144 50 [some (.ref 31), some (.ref v1), some (.int v2), some (.ref v3), some (.int v4), some (.int v5), none] [] h := by
  unfold R_144_50 at e
  obtain ⟨x, h2, e1, e2⟩ := bndI_s e
  refine k_144_50 (by omega) (t_81 e1) ?_
  rintro _ _ ⟨rfl, rfl⟩
  exact r_144_60 hd hq hr_8 e2
noncomputable def R_144_42 (rec_8 : Nat → Int32 → Nat → Int32 → Hp → Option (Int32 × Hp)) (v1 : Nat) (v2 : Int32) (v3 : Nat) (v4 : Int32) (v5 : Int32) (s0 : Int32) (h : Hp) : Option (Int32 × Hp) := if s0 = 0 then R_144_50 rec_8 v1 v2 v3 v4 v5 h else R_144_45 v4 h
theorem r_144_42 {X : GX} {d : Nat} {r : Int32 × Hp} (hd : 6 ≤ d) (hq : RtX X (some (.int r.1)) r.2) {rec_8 : Nat → Int32 → Nat → Int32 → Hp → Option (Int32 × Hp)} (hr_8 : ∀ {v1 : Nat} {v2 : Int32} {v3 : Nat} {v4 : Int32} {h : Hp}, rec_8 v1 v2 v3 v4 h = some r → G X d 144 8 [some (.ref 31), some (.ref v1), some (.int v2), some (.ref v3), some (.int v4), none, none] [] h) {h : Hp} {v1 : Nat} {v2 : Int32} {v3 : Nat} {v4 : Int32} {v5 : Int32} {s0 : Int32} (e : R_144_42 rec_8 v1 v2 v3 v4 v5 s0 h = some r) : G X d 144 42 [some (.ref 31), some (.ref v1), some (.int v2), some (.ref v3), some (.int v4), some (.int v5), none] [.int s0] h := by
  unfold R_144_42 at e
  refine k_144_42 (fun c => ?_) (fun c => ?_)
  · rw [if_pos c] at e; exact r_144_50 hd hq hr_8 e
  · rw [if_neg c] at e; exact r_144_45 hd hq e
noncomputable def R_144_34 (rec_8 : Nat → Int32 → Nat → Int32 → Hp → Option (Int32 × Hp)) (v1 : Nat) (v2 : Int32) (v3 : Nat) (v4 : Int32) (v5 : Int32) (h : Hp) : Option (Int32 × Hp) := bndI (S_38 v3 h) (R_144_42 rec_8 v1 v2 v3 v4 v5)
theorem r_144_34 {X : GX} {d : Nat} {r : Int32 × Hp} (hd : 6 ≤ d) (hq : RtX X (some (.int r.1)) r.2) {rec_8 : Nat → Int32 → Nat → Int32 → Hp → Option (Int32 × Hp)} (hr_8 : ∀ {v1 : Nat} {v2 : Int32} {v3 : Nat} {v4 : Int32} {h : Hp}, rec_8 v1 v2 v3 v4 h = some r → G X d 144 8 [some (.ref 31), some (.ref v1), some (.int v2), some (.ref v3), some (.int v4), none, none] [] h) {h : Hp} {v1 : Nat} {v2 : Int32} {v3 : Nat} {v4 : Int32} {v5 : Int32} (e : R_144_34 rec_8 v1 v2 v3 v4 v5 h = some r) : G X d 144 34 [some (.ref 31), some (.ref v1), some (.int v2), some (.ref v3), some (.int v4), some (.int v5), none] [] h := by
  unfold R_144_34 at e
  obtain ⟨x, h2, e1, e2⟩ := bndI_s e
  refine k_144_34 (by omega) (t_38 e1) ?_
  rintro _ _ ⟨rfl, rfl⟩
  exact r_144_42 hd hq hr_8 e2
noncomputable def R_144_31 (rec_8 : Nat → Int32 → Nat → Int32 → Hp → Option (Int32 × Hp)) (v1 : Nat) (v2 : Int32) (v3 : Nat) (v4 : Int32) (v5 : Int32) (s0 : Int32) (h : Hp) : Option (Int32 × Hp) := if s0 = 0 then R_144_45 v4 h else R_144_34 rec_8 v1 v2 v3 v4 v5 h
theorem r_144_31 {X : GX} {d : Nat} {r : Int32 × Hp} (hd : 6 ≤ d) (hq : RtX X (some (.int r.1)) r.2) {rec_8 : Nat → Int32 → Nat → Int32 → Hp → Option (Int32 × Hp)} (hr_8 : ∀ {v1 : Nat} {v2 : Int32} {v3 : Nat} {v4 : Int32} {h : Hp}, rec_8 v1 v2 v3 v4 h = some r → G X d 144 8 [some (.ref 31), some (.ref v1), some (.int v2), some (.ref v3), some (.int v4), none, none] [] h) {h : Hp} {v1 : Nat} {v2 : Int32} {v3 : Nat} {v4 : Int32} {v5 : Int32} {s0 : Int32} (e : R_144_31 rec_8 v1 v2 v3 v4 v5 s0 h = some r) : G X d 144 31 [some (.ref 31), some (.ref v1), some (.int v2), some (.ref v3), some (.int v4), some (.int v5), none] [.int s0] h := by
  unfold R_144_31 at e
  refine k_144_31 (fun c => ?_) (fun c => ?_)
  · rw [if_pos c] at e; exact r_144_45 hd hq e
  · rw [if_neg c] at e; exact r_144_34 hd hq hr_8 e
noncomputable def R_144_14 (rec_8 : Nat → Int32 → Nat → Int32 → Hp → Option (Int32 × Hp)) (v1 : Nat) (v2 : Int32) (v3 : Nat) (v4 : Int32) (h : Hp) : Option (Int32 × Hp) := gd (IA v1 (v4 * 3)) (bndI (S_145 (h v1 (Int32.toNatClampNeg (v4 * 3))) h) (R_144_31 rec_8 v1 v2 v3 v4 (h v1 (Int32.toNatClampNeg (v4 * 3)))))
theorem r_144_14 {X : GX} {d : Nat} {r : Int32 × Hp} (hd : 6 ≤ d) (hq : RtX X (some (.int r.1)) r.2) {rec_8 : Nat → Int32 → Nat → Int32 → Hp → Option (Int32 × Hp)} (hr_8 : ∀ {v1 : Nat} {v2 : Int32} {v3 : Nat} {v4 : Int32} {h : Hp}, rec_8 v1 v2 v3 v4 h = some r → G X d 144 8 [some (.ref 31), some (.ref v1), some (.int v2), some (.ref v3), some (.int v4), none, none] [] h) {h : Hp} {v1 : Nat} {v2 : Int32} {v3 : Nat} {v4 : Int32} (e : R_144_14 rec_8 v1 v2 v3 v4 h = some r) : G X d 144 14 [some (.ref 31), some (.ref v1), some (.int v2), some (.ref v3), some (.int v4), none, none] [] h := by
  unfold R_144_14 at e
  have g := gd_s e; clear e; obtain ⟨b0, e⟩ := g
  obtain ⟨x, h2, e1, e2⟩ := bndI_s e
  refine k_144_14 b0 (by omega) (t_145 e1) ?_
  rintro _ _ ⟨rfl, rfl⟩
  exact r_144_31 hd hq hr_8 e2
noncomputable def R_144_8 (rec_8 : Nat → Int32 → Nat → Int32 → Hp → Option (Int32 × Hp)) (v1 : Nat) (v2 : Int32) (v3 : Nat) (v4 : Int32) (h : Hp) : Option (Int32 × Hp) := if v2 ≤ v4 then R_144_101 h else R_144_14 rec_8 v1 v2 v3 v4 h
theorem r_144_8 {X : GX} {d : Nat} {r : Int32 × Hp} (hd : 6 ≤ d) (hq : RtX X (some (.int r.1)) r.2) {rec_8 : Nat → Int32 → Nat → Int32 → Hp → Option (Int32 × Hp)} (hr_8 : ∀ {v1 : Nat} {v2 : Int32} {v3 : Nat} {v4 : Int32} {h : Hp}, rec_8 v1 v2 v3 v4 h = some r → G X d 144 8 [some (.ref 31), some (.ref v1), some (.int v2), some (.ref v3), some (.int v4), none, none] [] h) {h : Hp} {v1 : Nat} {v2 : Int32} {v3 : Nat} {v4 : Int32} (e : R_144_8 rec_8 v1 v2 v3 v4 h = some r) : G X d 144 8 [some (.ref 31), some (.ref v1), some (.int v2), some (.ref v3), some (.int v4), none, none] [] h := by
  unfold R_144_8 at e
  refine k_144_8 (fun c => ?_) (fun c => ?_)
  · rw [if_pos c] at e; exact r_144_101 hd hq e
  · rw [if_neg c] at e; exact r_144_14 hd hq hr_8 e
noncomputable def H_144_8 : Nat → Nat → Int32 → Nat → Int32 → Hp → Option (Int32 × Hp)
  | 0, _, _, _, _, _ => none
  | n + 1, v1, v2, v3, v4, h => R_144_8 (H_144_8 n) v1 v2 v3 v4 h
theorem h_144_8 {X : GX} {d : Nat} {r : Int32 × Hp} (hd : 6 ≤ d) (hq : RtX X (some (.int r.1)) r.2) {n : Nat} {h : Hp} {v1 : Nat} {v2 : Int32} {v3 : Nat} {v4 : Int32} (e : H_144_8 n v1 v2 v3 v4 h = some r) : G X d 144 8 [some (.ref 31), some (.ref v1), some (.int v2), some (.ref v3), some (.int v4), none, none] [] h := by
  induction n generalizing v1 v2 v3 v4 h with
  | zero => cases e
  | succ n ih => exact r_144_8 hd hq (fun e => ih e) e
noncomputable def R_144_4 (v1 : Nat) (v2 : Int32) (s0 : Nat) (h : Hp) : Option (Int32 × Hp) := H_144_8 fuL v1 v2 s0 0 h
theorem r_144_4 {X : GX} {d : Nat} {r : Int32 × Hp} (hd : 6 ≤ d) (hq : RtX X (some (.int r.1)) r.2) {h : Hp} {v1 : Nat} {v2 : Int32} {s0 : Nat} (e : R_144_4 v1 v2 s0 h = some r) : G X d 144 4 [some (.ref 31), some (.ref v1), some (.int v2), none, none, none, none] [.ref s0] h := by
  unfold R_144_4 at e
  exact k_144_4 (h_144_8 hd hq e)
noncomputable def R_144_0 (v1 : Nat) (v2 : Int32) (h : Hp) : Option (Int32 × Hp) := bndR (S_87 h) (R_144_4 v1 v2)
theorem r_144_0 {X : GX} {d : Nat} {r : Int32 × Hp} (hd : 6 ≤ d) (hq : RtX X (some (.int r.1)) r.2) {h : Hp} {v1 : Nat} {v2 : Int32} (e : R_144_0 v1 v2 h = some r) : G X d 144 0 [some (.ref 31), some (.ref v1), some (.int v2), none, none, none, none] [] h := by
  unfold R_144_0 at e
  obtain ⟨x, h2, e1, e2⟩ := bndR_s e
  refine k_144_0 (by omega) (t_87 e1) ?_
  rintro _ _ ⟨rfl, rfl⟩
  exact r_144_4 hd hq e2
noncomputable def S_144 (v1 : Nat) (v2 : Int32) (h : Hp) : Option (Int32 × Hp) := R_144_0 v1 v2 h
set_option maxRecDepth 100000 in
theorem t_144 {v1 : Nat} {v2 : Int32} {h : Hp} {r : Int32 × Hp} (e : S_144 v1 v2 h = some r) : CI 6 144 [.ref 31, .ref v1, .int v2] h (fun x g => x = r.1 ∧ g = r.2) := by
  refine C.of mo_144 (Nat.le_of_ble_eq_true rfl) (fun X hq => ?_)
  exact r_144_0 (Nat.le_refl _) (hq _ _ ⟨_, rfl, rfl, rfl⟩) e
/-! 143 PlayedTruth.judge()I -/
noncomputable def R_143_15 (s0 : Int32) (h : Hp) : Option (Int32 × Hp) := some (s0, h)
theorem r_143_15 {X : GX} {d : Nat} {r : Int32 × Hp} (hd : 7 ≤ d) (hq : RtX X (some (.int r.1)) r.2) {h : Hp} {s0 : Int32} (e : R_143_15 s0 h = some r) : G X d 143 15 [none] [.int s0] h := by
  unfold R_143_15 at e
  rw [← Option.some.inj e] at hq
  exact k_143_15 hq
noncomputable def R_143_0 (h : Hp) : Option (Int32 × Hp) := bndI (S_144 63 (h 0 8) h) (R_143_15)
theorem r_143_0 {X : GX} {d : Nat} {r : Int32 × Hp} (hd : 7 ≤ d) (hq : RtX X (some (.int r.1)) r.2) {h : Hp} (e : R_143_0 h = some r) : G X d 143 0 [some (.ref 0)] [] h := by
  unfold R_143_0 at e
  obtain ⟨x, h2, e1, e2⟩ := bndI_s e
  refine k_143_0 (by omega) (t_144 e1) ?_
  rintro _ _ ⟨rfl, rfl⟩
  exact r_143_15 hd hq e2
noncomputable def S_143 (h : Hp) : Option (Int32 × Hp) := R_143_0 h
set_option maxRecDepth 100000 in
theorem t_143 {h : Hp} {r : Int32 × Hp} (e : S_143 h = some r) : CI 7 143 [.ref 0] h (fun x g => x = r.1 ∧ g = r.2) := by
  refine C.of mo_143 (Nat.le_of_ble_eq_true rfl) (fun X hq => ?_)
  exact r_143_0 (Nat.le_refl _) (hq _ _ ⟨_, rfl, rfl, rfl⟩) e
/-! 147 PlayedTruth$Host.isSheet(I)Z -/
noncomputable def R_147_13 (h : Hp) : Option (Int32 × Hp) := some (0, h)
theorem r_147_13 {X : GX} {d : Nat} {r : Int32 × Hp} (hd : 1 ≤ d) (hq : RtX X (some (.int r.1)) r.2) {h : Hp} (e : R_147_13 h = some r) : G X d 147 13 [none] [] h := by
  unfold R_147_13 at e
  rw [← Option.some.inj e] at hq
  exact k_147_13 hq
noncomputable def R_147_9 (h : Hp) : Option (Int32 × Hp) := some (1, h)
theorem r_147_9 {X : GX} {d : Nat} {r : Int32 × Hp} (hd : 1 ≤ d) (hq : RtX X (some (.int r.1)) r.2) {h : Hp} (e : R_147_9 h = some r) : G X d 147 9 [none] [] h := by
  unfold R_147_9 at e
  rw [← Option.some.inj e] at hq
  exact k_147_9 hq
noncomputable def R_147_4 (v0 : Int32) (h : Hp) : Option (Int32 × Hp) := if 4 ≤ v0 then R_147_13 h else R_147_9 h
theorem r_147_4 {X : GX} {d : Nat} {r : Int32 × Hp} (hd : 1 ≤ d) (hq : RtX X (some (.int r.1)) r.2) {h : Hp} {v0 : Int32} (e : R_147_4 v0 h = some r) : G X d 147 4 [some (.int v0)] [] h := by
  unfold R_147_4 at e
  refine k_147_4 (fun c => ?_) (fun c => ?_)
  · rw [if_pos c] at e; exact r_147_13 hd hq e
  · rw [if_neg c] at e; exact r_147_9 hd hq e
noncomputable def R_147_0 (v0 : Int32) (h : Hp) : Option (Int32 × Hp) := if v0 < 0 then R_147_13 h else R_147_4 v0 h
theorem r_147_0 {X : GX} {d : Nat} {r : Int32 × Hp} (hd : 1 ≤ d) (hq : RtX X (some (.int r.1)) r.2) {h : Hp} {v0 : Int32} (e : R_147_0 v0 h = some r) : G X d 147 0 [some (.int v0)] [] h := by
  unfold R_147_0 at e
  refine k_147_0 (fun c => ?_) (fun c => ?_)
  · rw [if_pos c] at e; exact r_147_13 hd hq e
  · rw [if_neg c] at e; exact r_147_4 hd hq e
noncomputable def S_147 (v0 : Int32) (h : Hp) : Option (Int32 × Hp) := R_147_0 v0 h
set_option maxRecDepth 100000 in
theorem t_147 {v0 : Int32} {h : Hp} {r : Int32 × Hp} (e : S_147 v0 h = some r) : CI 1 147 [.int v0] h (fun x g => x = r.1 ∧ g = r.2) := by
  refine C.of mo_147 (Nat.le_of_ble_eq_true rfl) (fun X hq => ?_)
  exact r_147_0 (Nat.le_refl _) (hq _ _ ⟨_, rfl, rfl, rfl⟩) e
/-! 148 PlayedTruth$Host.makeSheet(III)I -/
noncomputable def R_148_40 (h : Hp) : Option (Int32 × Hp) := some (1, h)
theorem r_148_40 {X : GX} {d : Nat} {r : Int32 × Hp} (hd : 1 ≤ d) (hq : RtX X (some (.int r.1)) r.2) {h : Hp} (e : R_148_40 h = some r) : G X d 148 40 [none, none, none, none, none] [] h := by
  unfold R_148_40 at e
  rw [← Option.some.inj e] at hq
  exact k_148_40 hq
noncomputable def R_148_24 (rec_17 : Int32 → Int32 → Hp → Option (Int32 × Hp)) (v1 : Int32) (v4 : Int32) (h : Hp) : Option (Int32 × Hp) := gd (vp_in v1 4 ∧ IA (54 + Int32.toNatClampNeg v1) v4) (rec_17 v1 (v4 + 1) ((wr h (54 + Int32.toNatClampNeg v1) (Int32.toNatClampNeg v4) 0)))
theorem r_148_24 {X : GX} {d : Nat} {r : Int32 × Hp} (hd : 1 ≤ d) (hq : RtX X (some (.int r.1)) r.2) {rec_17 : Int32 → Int32 → Hp → Option (Int32 × Hp)} (hr_17 : ∀ {v1 : Int32} {v4 : Int32} {h : Hp}, rec_17 v1 v4 h = some r → G X d 148 17 [some (.ref 50), some (.int v1), none, none, some (.int v4)] [] h) {h : Hp} {v1 : Int32} {v4 : Int32} (e : R_148_24 rec_17 v1 v4 h = some r) : G X d 148 24 [some (.ref 50), some (.int v1), none, none, some (.int v4)] [] h := by
  unfold R_148_24 at e
  have g := gd_s e; clear e; obtain ⟨⟨b0, b1⟩, e⟩ := g
  exact k_148_24 b0 b1 (hr_17 e)
noncomputable def R_148_17 (rec_17 : Int32 → Int32 → Hp → Option (Int32 × Hp)) (v1 : Int32) (v4 : Int32) (h : Hp) : Option (Int32 × Hp) := if 40 ≤ v4 then R_148_40 h else R_148_24 rec_17 v1 v4 h
theorem r_148_17 {X : GX} {d : Nat} {r : Int32 × Hp} (hd : 1 ≤ d) (hq : RtX X (some (.int r.1)) r.2) {rec_17 : Int32 → Int32 → Hp → Option (Int32 × Hp)} (hr_17 : ∀ {v1 : Int32} {v4 : Int32} {h : Hp}, rec_17 v1 v4 h = some r → G X d 148 17 [some (.ref 50), some (.int v1), none, none, some (.int v4)] [] h) {h : Hp} {v1 : Int32} {v4 : Int32} (e : R_148_17 rec_17 v1 v4 h = some r) : G X d 148 17 [some (.ref 50), some (.int v1), none, none, some (.int v4)] [] h := by
  unfold R_148_17 at e
  refine k_148_17 (fun c => ?_) (fun c => ?_)
  · rw [if_pos c] at e; exact r_148_40 hd hq e
  · rw [if_neg c] at e; exact r_148_24 hd hq hr_17 e
noncomputable def H_148_17 : Nat → Int32 → Int32 → Hp → Option (Int32 × Hp)
  | 0, _, _, _ => none
  | n + 1, v1, v4, h => R_148_17 (H_148_17 n) v1 v4 h
theorem h_148_17 {X : GX} {d : Nat} {r : Int32 × Hp} (hd : 1 ≤ d) (hq : RtX X (some (.int r.1)) r.2) {n : Nat} {h : Hp} {v1 : Int32} {v4 : Int32} (e : H_148_17 n v1 v4 h = some r) : G X d 148 17 [some (.ref 50), some (.int v1), none, none, some (.int v4)] [] h := by
  induction n generalizing v1 v4 h with
  | zero => cases e
  | succ n ih => exact r_148_17 hd hq (fun e => ih e) e
noncomputable def R_148_0 (v1 : Int32) (v2 : Int32) (v3 : Int32) (h : Hp) : Option (Int32 × Hp) := gd (IA 51 v1 ∧ IA 52 v1) (H_148_17 fuL v1 0 ((wr (wr h 51 (Int32.toNatClampNeg v1) v2) 52 (Int32.toNatClampNeg v1) v3)))
theorem r_148_0 {X : GX} {d : Nat} {r : Int32 × Hp} (hd : 1 ≤ d) (hq : RtX X (some (.int r.1)) r.2) {h : Hp} {v1 : Int32} {v2 : Int32} {v3 : Int32} (e : R_148_0 v1 v2 v3 h = some r) : G X d 148 0 [some (.ref 50), some (.int v1), some (.int v2), some (.int v3), none] [] h := by
  unfold R_148_0 at e
  have g := gd_s e; clear e; obtain ⟨⟨b0, b1⟩, e⟩ := g
  exact k_148_0 b0 b1 (h_148_17 hd hq e)
noncomputable def S_148 (v1 : Int32) (v2 : Int32) (v3 : Int32) (h : Hp) : Option (Int32 × Hp) := R_148_0 v1 v2 v3 h
set_option maxRecDepth 100000 in
theorem t_148 {v1 : Int32} {v2 : Int32} {v3 : Int32} {h : Hp} {r : Int32 × Hp} (e : S_148 v1 v2 v3 h = some r) : CI 1 148 [.ref 50, .int v1, .int v2, .int v3] h (fun x g => x = r.1 ∧ g = r.2) := by
  refine C.of mo_148 (Nat.le_of_ble_eq_true rfl) (fun X hq => ?_)
  exact r_148_0 (Nat.le_refl _) (hq _ _ ⟨_, rfl, rfl, rfl⟩) e
/-! 146 PlayedTruth.sheet(III)I -/
noncomputable def R_146_16 (h : Hp) : Option (Int32 × Hp) := some (((-1)), h)
theorem r_146_16 {X : GX} {d : Nat} {r : Int32 × Hp} (hd : 2 ≤ d) (hq : RtX X (some (.int r.1)) r.2) {h : Hp} (e : R_146_16 h = some r) : G X d 146 16 [none, none, none, none] [] h := by
  unfold R_146_16 at e
  rw [← Option.some.inj e] at hq
  exact k_146_16 hq
noncomputable def R_146_59 (s0 : Int32) (h : Hp) : Option (Int32 × Hp) := some (s0, h)
theorem r_146_59 {X : GX} {d : Nat} {r : Int32 × Hp} (hd : 2 ≤ d) (hq : RtX X (some (.int r.1)) r.2) {h : Hp} {s0 : Int32} (e : R_146_59 s0 h = some r) : G X d 146 59 [none, none, none, none] [.int s0] h := by
  unfold R_146_59 at e
  rw [← Option.some.inj e] at hq
  exact k_146_59 hq
noncomputable def R_146_49 (v1 : Int32) (v2 : Int32) (v3 : Int32) (h : Hp) : Option (Int32 × Hp) := bndI (S_148 v1 v2 v3 h) (R_146_59)
theorem r_146_49 {X : GX} {d : Nat} {r : Int32 × Hp} (hd : 2 ≤ d) (hq : RtX X (some (.int r.1)) r.2) {h : Hp} {v1 : Int32} {v2 : Int32} {v3 : Int32} (e : R_146_49 v1 v2 v3 h = some r) : G X d 146 49 [some (.ref 0), some (.int v1), some (.int v2), some (.int v3)] [] h := by
  unfold R_146_49 at e
  obtain ⟨x, h2, e1, e2⟩ := bndI_s e
  refine k_146_49 (by omega) (t_148 e1) ?_
  rintro _ _ ⟨rfl, rfl⟩
  exact r_146_59 hd hq e2
noncomputable def R_146_46 (h : Hp) : Option (Int32 × Hp) := some (((-14)), h)
theorem r_146_46 {X : GX} {d : Nat} {r : Int32 × Hp} (hd : 2 ≤ d) (hq : RtX X (some (.int r.1)) r.2) {h : Hp} (e : R_146_46 h = some r) : G X d 146 46 [none, none, none, none] [] h := by
  unfold R_146_46 at e
  rw [← Option.some.inj e] at hq
  exact k_146_46 hq
noncomputable def R_146_42 (v1 : Int32) (v2 : Int32) (v3 : Int32) (h : Hp) : Option (Int32 × Hp) := if 0 ≤ v3 then R_146_49 v1 v2 v3 h else R_146_46 h
theorem r_146_42 {X : GX} {d : Nat} {r : Int32 × Hp} (hd : 2 ≤ d) (hq : RtX X (some (.int r.1)) r.2) {h : Hp} {v1 : Int32} {v2 : Int32} {v3 : Int32} (e : R_146_42 v1 v2 v3 h = some r) : G X d 146 42 [some (.ref 0), some (.int v1), some (.int v2), some (.int v3)] [] h := by
  unfold R_146_42 at e
  refine k_146_42 (fun c => ?_) (fun c => ?_)
  · rw [if_pos c] at e; exact r_146_49 hd hq e
  · rw [if_neg c] at e; exact r_146_46 hd hq e
noncomputable def R_146_40 (h : Hp) : Option (Int32 × Hp) := some (((-1)), h)
theorem r_146_40 {X : GX} {d : Nat} {r : Int32 × Hp} (hd : 2 ≤ d) (hq : RtX X (some (.int r.1)) r.2) {h : Hp} (e : R_146_40 h = some r) : G X d 146 40 [none, none, none, none] [] h := by
  unfold R_146_40 at e
  rw [← Option.some.inj e] at hq
  exact k_146_40 hq
noncomputable def R_146_34 (v1 : Int32) (v2 : Int32) (v3 : Int32) (h : Hp) : Option (Int32 × Hp) := if v3 ≤ 40 then R_146_42 v1 v2 v3 h else R_146_40 h
theorem r_146_34 {X : GX} {d : Nat} {r : Int32 × Hp} (hd : 2 ≤ d) (hq : RtX X (some (.int r.1)) r.2) {h : Hp} {v1 : Int32} {v2 : Int32} {v3 : Int32} (e : R_146_34 v1 v2 v3 h = some r) : G X d 146 34 [some (.ref 0), some (.int v1), some (.int v2), some (.int v3)] [] h := by
  unfold R_146_34 at e
  refine k_146_34 (fun c => ?_) (fun c => ?_)
  · rw [if_pos c] at e; exact r_146_42 hd hq e
  · rw [if_neg c] at e; exact r_146_40 hd hq e
noncomputable def R_146_33 (s0 : Int32) (h : Hp) : Option (Int32 × Hp) := some (s0, h)
theorem r_146_33 {X : GX} {d : Nat} {r : Int32 × Hp} (hd : 2 ≤ d) (hq : RtX X (some (.int r.1)) r.2) {h : Hp} {s0 : Int32} (e : R_146_33 s0 h = some r) : G X d 146 33 [none, none, none, none] [.int s0] h := by
  unfold R_146_33 at e
  rw [← Option.some.inj e] at hq
  exact k_146_33 hq
noncomputable def R_146_23 (v1 : Int32) (h : Hp) : Option (Int32 × Hp) := bndI (S_148 v1 ((-1)) 0 h) (R_146_33)
theorem r_146_23 {X : GX} {d : Nat} {r : Int32 × Hp} (hd : 2 ≤ d) (hq : RtX X (some (.int r.1)) r.2) {h : Hp} {v1 : Int32} (e : R_146_23 v1 h = some r) : G X d 146 23 [some (.ref 0), some (.int v1), none, none] [] h := by
  unfold R_146_23 at e
  obtain ⟨x, h2, e1, e2⟩ := bndI_s e
  refine k_146_23 (by omega) (t_148 e1) ?_
  rintro _ _ ⟨rfl, rfl⟩
  exact r_146_33 hd hq e2
noncomputable def R_146_18 (v1 : Int32) (v2 : Int32) (v3 : Int32) (h : Hp) : Option (Int32 × Hp) := if v2 = ((-1)) then R_146_23 v1 h else R_146_34 v1 v2 v3 h
theorem r_146_18 {X : GX} {d : Nat} {r : Int32 × Hp} (hd : 2 ≤ d) (hq : RtX X (some (.int r.1)) r.2) {h : Hp} {v1 : Int32} {v2 : Int32} {v3 : Int32} (e : R_146_18 v1 v2 v3 h = some r) : G X d 146 18 [some (.ref 0), some (.int v1), some (.int v2), some (.int v3)] [] h := by
  unfold R_146_18 at e
  refine k_146_18 (fun c => ?_) (fun c => ?_)
  · rw [if_neg c] at e; exact r_146_34 hd hq e
  · rw [if_pos c] at e; exact r_146_23 hd hq e
noncomputable def R_146_13 (v1 : Int32) (v2 : Int32) (v3 : Int32) (s0 : Int32) (h : Hp) : Option (Int32 × Hp) := if s0 = 0 then R_146_16 h else R_146_18 v1 v2 v3 h
theorem r_146_13 {X : GX} {d : Nat} {r : Int32 × Hp} (hd : 2 ≤ d) (hq : RtX X (some (.int r.1)) r.2) {h : Hp} {v1 : Int32} {v2 : Int32} {v3 : Int32} {s0 : Int32} (e : R_146_13 v1 v2 v3 s0 h = some r) : G X d 146 13 [some (.ref 0), some (.int v1), some (.int v2), some (.int v3)] [.int s0] h := by
  unfold R_146_13 at e
  refine k_146_13 (fun c => ?_) (fun c => ?_)
  · rw [if_neg c] at e; exact r_146_18 hd hq e
  · rw [if_pos c] at e; exact r_146_16 hd hq e
noncomputable def R_146_7 (v1 : Int32) (v2 : Int32) (v3 : Int32) (h : Hp) : Option (Int32 × Hp) := bndI (S_11 v2 ((-1)) 4 h) (R_146_13 v1 v2 v3)
theorem r_146_7 {X : GX} {d : Nat} {r : Int32 × Hp} (hd : 2 ≤ d) (hq : RtX X (some (.int r.1)) r.2) {h : Hp} {v1 : Int32} {v2 : Int32} {v3 : Int32} (e : R_146_7 v1 v2 v3 h = some r) : G X d 146 7 [some (.ref 0), some (.int v1), some (.int v2), some (.int v3)] [] h := by
  unfold R_146_7 at e
  obtain ⟨x, h2, e1, e2⟩ := bndI_s e
  refine k_146_7 (by omega) (t_11 e1) ?_
  rintro _ _ ⟨rfl, rfl⟩
  exact r_146_13 hd hq e2
noncomputable def R_146_4 (v1 : Int32) (v2 : Int32) (v3 : Int32) (s0 : Int32) (h : Hp) : Option (Int32 × Hp) := if s0 = 0 then R_146_16 h else R_146_7 v1 v2 v3 h
theorem r_146_4 {X : GX} {d : Nat} {r : Int32 × Hp} (hd : 2 ≤ d) (hq : RtX X (some (.int r.1)) r.2) {h : Hp} {v1 : Int32} {v2 : Int32} {v3 : Int32} {s0 : Int32} (e : R_146_4 v1 v2 v3 s0 h = some r) : G X d 146 4 [some (.ref 0), some (.int v1), some (.int v2), some (.int v3)] [.int s0] h := by
  unfold R_146_4 at e
  refine k_146_4 (fun c => ?_) (fun c => ?_)
  · rw [if_pos c] at e; exact r_146_16 hd hq e
  · rw [if_neg c] at e; exact r_146_7 hd hq e
noncomputable def R_146_0 (v1 : Int32) (v2 : Int32) (v3 : Int32) (h : Hp) : Option (Int32 × Hp) := bndI (S_147 v1 h) (R_146_4 v1 v2 v3)
theorem r_146_0 {X : GX} {d : Nat} {r : Int32 × Hp} (hd : 2 ≤ d) (hq : RtX X (some (.int r.1)) r.2) {h : Hp} {v1 : Int32} {v2 : Int32} {v3 : Int32} (e : R_146_0 v1 v2 v3 h = some r) : G X d 146 0 [some (.ref 0), some (.int v1), some (.int v2), some (.int v3)] [] h := by
  unfold R_146_0 at e
  obtain ⟨x, h2, e1, e2⟩ := bndI_s e
  refine k_146_0 (by omega) (t_147 e1) ?_
  rintro _ _ ⟨rfl, rfl⟩
  exact r_146_4 hd hq e2
noncomputable def S_146 (v1 : Int32) (v2 : Int32) (v3 : Int32) (h : Hp) : Option (Int32 × Hp) := R_146_0 v1 v2 v3 h
set_option maxRecDepth 100000 in
theorem t_146 {v1 : Int32} {v2 : Int32} {v3 : Int32} {h : Hp} {r : Int32 × Hp} (e : S_146 v1 v2 v3 h = some r) : CI 2 146 [.ref 0, .int v1, .int v2, .int v3] h (fun x g => x = r.1 ∧ g = r.2) := by
  refine C.of mo_146 (Nat.le_of_ble_eq_true rfl) (fun X hq => ?_)
  exact r_146_0 (Nat.le_refl _) (hq _ _ ⟨_, rfl, rfl, rfl⟩) e
/-! 150 PlayedTruth$Host.isItem(II)Z -/
noncomputable def R_150_18 (h : Hp) : Option (Int32 × Hp) := some (0, h)
theorem r_150_18 {X : GX} {d : Nat} {r : Int32 × Hp} (hd : 1 ≤ d) (hq : RtX X (some (.int r.1)) r.2) {h : Hp} (e : R_150_18 h = some r) : G X d 150 18 [none, none, none] [] h := by
  unfold R_150_18 at e
  rw [← Option.some.inj e] at hq
  exact k_150_18 hq
noncomputable def R_150_14 (h : Hp) : Option (Int32 × Hp) := some (1, h)
theorem r_150_14 {X : GX} {d : Nat} {r : Int32 × Hp} (hd : 1 ≤ d) (hq : RtX X (some (.int r.1)) r.2) {h : Hp} (e : R_150_14 h = some r) : G X d 150 14 [none, none, none] [] h := by
  unfold R_150_14 at e
  rw [← Option.some.inj e] at hq
  exact k_150_14 hq
noncomputable def R_150_4 (v1 : Int32) (v2 : Int32) (h : Hp) : Option (Int32 × Hp) := gd (IA 52 v1) (if (h 52 (Int32.toNatClampNeg v1)) ≤ v2 then R_150_18 h else R_150_14 h)
theorem r_150_4 {X : GX} {d : Nat} {r : Int32 × Hp} (hd : 1 ≤ d) (hq : RtX X (some (.int r.1)) r.2) {h : Hp} {v1 : Int32} {v2 : Int32} (e : R_150_4 v1 v2 h = some r) : G X d 150 4 [some (.ref 50), some (.int v1), some (.int v2)] [] h := by
  unfold R_150_4 at e
  have g := gd_s e; clear e; obtain ⟨b0, e⟩ := g
  refine k_150_4 b0 (fun c => ?_) (fun c => ?_)
  · rw [if_pos c] at e; exact r_150_18 hd hq e
  · rw [if_neg c] at e; exact r_150_14 hd hq e
noncomputable def R_150_0 (v1 : Int32) (v2 : Int32) (h : Hp) : Option (Int32 × Hp) := if v2 < 0 then R_150_18 h else R_150_4 v1 v2 h
theorem r_150_0 {X : GX} {d : Nat} {r : Int32 × Hp} (hd : 1 ≤ d) (hq : RtX X (some (.int r.1)) r.2) {h : Hp} {v1 : Int32} {v2 : Int32} (e : R_150_0 v1 v2 h = some r) : G X d 150 0 [some (.ref 50), some (.int v1), some (.int v2)] [] h := by
  unfold R_150_0 at e
  refine k_150_0 (fun c => ?_) (fun c => ?_)
  · rw [if_pos c] at e; exact r_150_18 hd hq e
  · rw [if_neg c] at e; exact r_150_4 hd hq e
noncomputable def S_150 (v1 : Int32) (v2 : Int32) (h : Hp) : Option (Int32 × Hp) := R_150_0 v1 v2 h
set_option maxRecDepth 100000 in
theorem t_150 {v1 : Int32} {v2 : Int32} {h : Hp} {r : Int32 × Hp} (e : S_150 v1 v2 h = some r) : CI 1 150 [.ref 50, .int v1, .int v2] h (fun x g => x = r.1 ∧ g = r.2) := by
  refine C.of mo_150 (Nat.le_of_ble_eq_true rfl) (fun X hq => ?_)
  exact r_150_0 (Nat.le_refl _) (hq _ _ ⟨_, rfl, rfl, rfl⟩) e
/-! 151 PlayedTruth$Host.narrowed(II)I -/
noncomputable def R_151_36 (v1 : Int32) (h : Hp) : Option (Int32 × Hp) := some (((Int32.toInt8 v1).toInt32), h)
theorem r_151_36 {X : GX} {d : Nat} {r : Int32 × Hp} (hd : 1 ≤ d) (hq : RtX X (some (.int r.1)) r.2) {h : Hp} {v1 : Int32} (e : R_151_36 v1 h = some r) : G X d 151 36 [none, some (.int v1)] [] h := by
  unfold R_151_36 at e
  rw [← Option.some.inj e] at hq
  exact k_151_36 hq
noncomputable def R_151_39 (v1 : Int32) (h : Hp) : Option (Int32 × Hp) := some (((Int32.toInt16 v1).toInt32), h)
theorem r_151_39 {X : GX} {d : Nat} {r : Int32 × Hp} (hd : 1 ≤ d) (hq : RtX X (some (.int r.1)) r.2) {h : Hp} {v1 : Int32} (e : R_151_39 v1 h = some r) : G X d 151 39 [none, some (.int v1)] [] h := by
  unfold R_151_39 at e
  rw [← Option.some.inj e] at hq
  exact k_151_39 hq
noncomputable def R_151_52 (v1 : Int32) (h : Hp) : Option (Int32 × Hp) := some (v1, h)
theorem r_151_52 {X : GX} {d : Nat} {r : Int32 × Hp} (hd : 1 ≤ d) (hq : RtX X (some (.int r.1)) r.2) {h : Hp} {v1 : Int32} (e : R_151_52 v1 h = some r) : G X d 151 52 [none, some (.int v1)] [] h := by
  unfold R_151_52 at e
  rw [← Option.some.inj e] at hq
  exact k_151_52 hq
noncomputable def R_151_50 (h : Hp) : Option (Int32 × Hp) := some (0, h)
theorem r_151_50 {X : GX} {d : Nat} {r : Int32 × Hp} (hd : 1 ≤ d) (hq : RtX X (some (.int r.1)) r.2) {h : Hp} (e : R_151_50 h = some r) : G X d 151 50 [none, none] [] h := by
  unfold R_151_50 at e
  rw [← Option.some.inj e] at hq
  exact k_151_50 hq
noncomputable def R_151_46 (h : Hp) : Option (Int32 × Hp) := some (1, h)
theorem r_151_46 {X : GX} {d : Nat} {r : Int32 × Hp} (hd : 1 ≤ d) (hq : RtX X (some (.int r.1)) r.2) {h : Hp} (e : R_151_46 h = some r) : G X d 151 46 [none, none] [] h := by
  unfold R_151_46 at e
  rw [← Option.some.inj e] at hq
  exact k_151_46 hq
noncomputable def R_151_42 (v1 : Int32) (h : Hp) : Option (Int32 × Hp) := if v1 = 0 then R_151_50 h else R_151_46 h
theorem r_151_42 {X : GX} {d : Nat} {r : Int32 × Hp} (hd : 1 ≤ d) (hq : RtX X (some (.int r.1)) r.2) {h : Hp} {v1 : Int32} (e : R_151_42 v1 h = some r) : G X d 151 42 [none, some (.int v1)] [] h := by
  unfold R_151_42 at e
  refine k_151_42 (fun c => ?_) (fun c => ?_)
  · rw [if_pos c] at e; exact r_151_50 hd hq e
  · rw [if_neg c] at e; exact r_151_46 hd hq e
noncomputable def R_151_0 (v0 : Int32) (v1 : Int32) (h : Hp) : Option (Int32 × Hp) := if v0 = 0 then R_151_36 v1 h else (if v0 = 1 then R_151_39 v1 h else (if v0 = 2 then R_151_52 v1 h else (if v0 = 3 then R_151_52 v1 h else (if v0 = 4 then R_151_42 v1 h else (R_151_52 v1 h)))))
theorem r_151_0 {X : GX} {d : Nat} {r : Int32 × Hp} (hd : 1 ≤ d) (hq : RtX X (some (.int r.1)) r.2) {h : Hp} {v0 : Int32} {v1 : Int32} (e : R_151_0 v0 v1 h = some r) : G X d 151 0 [some (.int v0), some (.int v1)] [] h := by
  unfold R_151_0 at e
  refine k_151_0 (fun c => ?_) (fun c => ?_) (fun c => ?_) (fun c => ?_) (fun c => ?_) (fun c0 c1 c2 c3 c4 => ?_)
  · rw [if_pos c] at e; exact r_151_36 hd hq e
  · rw [if_neg (show ¬ v0 = 0 by rw [c]; decide), if_pos c] at e; exact r_151_39 hd hq e
  · rw [if_neg (show ¬ v0 = 0 by rw [c]; decide), if_neg (show ¬ v0 = 1 by rw [c]; decide), if_pos c] at e; exact r_151_52 hd hq e
  · rw [if_neg (show ¬ v0 = 0 by rw [c]; decide), if_neg (show ¬ v0 = 1 by rw [c]; decide), if_neg (show ¬ v0 = 2 by rw [c]; decide), if_pos c] at e; exact r_151_52 hd hq e
  · rw [if_neg (show ¬ v0 = 0 by rw [c]; decide), if_neg (show ¬ v0 = 1 by rw [c]; decide), if_neg (show ¬ v0 = 2 by rw [c]; decide), if_neg (show ¬ v0 = 3 by rw [c]; decide), if_pos c] at e; exact r_151_42 hd hq e
  · rw [if_neg c0, if_neg c1, if_neg c2, if_neg c3, if_neg c4] at e; exact r_151_52 hd hq e
noncomputable def S_151 (v0 : Int32) (v1 : Int32) (h : Hp) : Option (Int32 × Hp) := R_151_0 v0 v1 h
set_option maxRecDepth 100000 in
theorem t_151 {v0 : Int32} {v1 : Int32} {h : Hp} {r : Int32 × Hp} (e : S_151 v0 v1 h = some r) : CI 1 151 [.int v0, .int v1] h (fun x g => x = r.1 ∧ g = r.2) := by
  refine C.of mo_151 (Nat.le_of_ble_eq_true rfl) (fun X hq => ?_)
  exact r_151_0 (Nat.le_refl _) (hq _ _ ⟨_, rfl, rfl, rfl⟩) e
/-! 149 PlayedTruth.write(III)I -/
noncomputable def R_149_63 (s1 : Int32) (s2 : Nat) (s0 : Int32) (h : Hp) : Option (Int32 × Hp) := gd (IA s2 s1) (some (1, (wr h s2 (Int32.toNatClampNeg s1) s0)))
theorem r_149_63 {X : GX} {d : Nat} {r : Int32 × Hp} (hd : 2 ≤ d) (hq : RtX X (some (.int r.1)) r.2) {h : Hp} {s1 : Int32} {s2 : Nat} {s0 : Int32} (e : R_149_63 s1 s2 s0 h = some r) : G X d 149 63 [none, none, none, none] [.int s0, .int s1, .ref s2] h := by
  unfold R_149_63 at e
  have g := gd_s e; clear e; obtain ⟨b0, e⟩ := g
  rw [← Option.some.inj e] at hq
  exact k_149_63 b0 hq
noncomputable def R_149_40 (v1 : Int32) (v2 : Int32) (v3 : Int32) (h : Hp) : Option (Int32 × Hp) := gd (vp_in v1 4 ∧ IA 51 v1) (bndI (S_151 (h 51 (Int32.toNatClampNeg v1)) v3 h) (R_149_63 v2 (54 + Int32.toNatClampNeg v1)))
theorem r_149_40 {X : GX} {d : Nat} {r : Int32 × Hp} (hd : 2 ≤ d) (hq : RtX X (some (.int r.1)) r.2) {h : Hp} {v1 : Int32} {v2 : Int32} {v3 : Int32} (e : R_149_40 v1 v2 v3 h = some r) : G X d 149 40 [some (.ref 0), some (.int v1), some (.int v2), some (.int v3)] [] h := by
  unfold R_149_40 at e
  have g := gd_s e; clear e; obtain ⟨⟨b0, b1⟩, e⟩ := g
  obtain ⟨x, h2, e1, e2⟩ := bndI_s e
  refine k_149_40 b0 b1 (by omega) (t_151 e1) ?_
  rintro _ _ ⟨rfl, rfl⟩
  exact r_149_63 hd hq e2
noncomputable def R_149_37 (h : Hp) : Option (Int32 × Hp) := some (((-12)), h)
theorem r_149_37 {X : GX} {d : Nat} {r : Int32 × Hp} (hd : 2 ≤ d) (hq : RtX X (some (.int r.1)) r.2) {h : Hp} (e : R_149_37 h = some r) : G X d 149 37 [none, none, none, none] [] h := by
  unfold R_149_37 at e
  rw [← Option.some.inj e] at hq
  exact k_149_37 hq
noncomputable def R_149_34 (v1 : Int32) (v2 : Int32) (v3 : Int32) (s0 : Int32) (h : Hp) : Option (Int32 × Hp) := if s0 = 0 then R_149_37 h else R_149_40 v1 v2 v3 h
theorem r_149_34 {X : GX} {d : Nat} {r : Int32 × Hp} (hd : 2 ≤ d) (hq : RtX X (some (.int r.1)) r.2) {h : Hp} {v1 : Int32} {v2 : Int32} {v3 : Int32} {s0 : Int32} (e : R_149_34 v1 v2 v3 s0 h = some r) : G X d 149 34 [some (.ref 0), some (.int v1), some (.int v2), some (.int v3)] [.int s0] h := by
  unfold R_149_34 at e
  refine k_149_34 (fun c => ?_) (fun c => ?_)
  · rw [if_neg c] at e; exact r_149_40 hd hq e
  · rw [if_pos c] at e; exact r_149_37 hd hq e
noncomputable def R_149_25 (v1 : Int32) (v2 : Int32) (v3 : Int32) (h : Hp) : Option (Int32 × Hp) := bndI (S_150 v1 v2 h) (R_149_34 v1 v2 v3)
theorem r_149_25 {X : GX} {d : Nat} {r : Int32 × Hp} (hd : 2 ≤ d) (hq : RtX X (some (.int r.1)) r.2) {h : Hp} {v1 : Int32} {v2 : Int32} {v3 : Int32} (e : R_149_25 v1 v2 v3 h = some r) : G X d 149 25 [some (.ref 0), some (.int v1), some (.int v2), some (.int v3)] [] h := by
  unfold R_149_25 at e
  obtain ⟨x, h2, e1, e2⟩ := bndI_s e
  refine k_149_25 (by omega) (t_150 e1) ?_
  rintro _ _ ⟨rfl, rfl⟩
  exact r_149_34 hd hq e2
noncomputable def R_149_22 (h : Hp) : Option (Int32 × Hp) := some (((-11)), h)
theorem r_149_22 {X : GX} {d : Nat} {r : Int32 × Hp} (hd : 2 ≤ d) (hq : RtX X (some (.int r.1)) r.2) {h : Hp} (e : R_149_22 h = some r) : G X d 149 22 [none, none, none, none] [] h := by
  unfold R_149_22 at e
  rw [← Option.some.inj e] at hq
  exact k_149_22 hq
noncomputable def R_149_9 (v1 : Int32) (v2 : Int32) (v3 : Int32) (h : Hp) : Option (Int32 × Hp) := gd (IA 51 v1) (if (h 51 (Int32.toNatClampNeg v1)) = ((-1)) then R_149_22 h else R_149_25 v1 v2 v3 h)
theorem r_149_9 {X : GX} {d : Nat} {r : Int32 × Hp} (hd : 2 ≤ d) (hq : RtX X (some (.int r.1)) r.2) {h : Hp} {v1 : Int32} {v2 : Int32} {v3 : Int32} (e : R_149_9 v1 v2 v3 h = some r) : G X d 149 9 [some (.ref 0), some (.int v1), some (.int v2), some (.int v3)] [] h := by
  unfold R_149_9 at e
  have g := gd_s e; clear e; obtain ⟨b0, e⟩ := g
  refine k_149_9 b0 (fun c => ?_) (fun c => ?_)
  · rw [if_neg c] at e; exact r_149_25 hd hq e
  · rw [if_pos c] at e; exact r_149_22 hd hq e
noncomputable def R_149_7 (h : Hp) : Option (Int32 × Hp) := some (((-1)), h)
theorem r_149_7 {X : GX} {d : Nat} {r : Int32 × Hp} (hd : 2 ≤ d) (hq : RtX X (some (.int r.1)) r.2) {h : Hp} (e : R_149_7 h = some r) : G X d 149 7 [none, none, none, none] [] h := by
  unfold R_149_7 at e
  rw [← Option.some.inj e] at hq
  exact k_149_7 hq
noncomputable def R_149_4 (v1 : Int32) (v2 : Int32) (v3 : Int32) (s0 : Int32) (h : Hp) : Option (Int32 × Hp) := if s0 = 0 then R_149_7 h else R_149_9 v1 v2 v3 h
theorem r_149_4 {X : GX} {d : Nat} {r : Int32 × Hp} (hd : 2 ≤ d) (hq : RtX X (some (.int r.1)) r.2) {h : Hp} {v1 : Int32} {v2 : Int32} {v3 : Int32} {s0 : Int32} (e : R_149_4 v1 v2 v3 s0 h = some r) : G X d 149 4 [some (.ref 0), some (.int v1), some (.int v2), some (.int v3)] [.int s0] h := by
  unfold R_149_4 at e
  refine k_149_4 (fun c => ?_) (fun c => ?_)
  · rw [if_neg c] at e; exact r_149_9 hd hq e
  · rw [if_pos c] at e; exact r_149_7 hd hq e
noncomputable def R_149_0 (v1 : Int32) (v2 : Int32) (v3 : Int32) (h : Hp) : Option (Int32 × Hp) := bndI (S_147 v1 h) (R_149_4 v1 v2 v3)
theorem r_149_0 {X : GX} {d : Nat} {r : Int32 × Hp} (hd : 2 ≤ d) (hq : RtX X (some (.int r.1)) r.2) {h : Hp} {v1 : Int32} {v2 : Int32} {v3 : Int32} (e : R_149_0 v1 v2 v3 h = some r) : G X d 149 0 [some (.ref 0), some (.int v1), some (.int v2), some (.int v3)] [] h := by
  unfold R_149_0 at e
  obtain ⟨x, h2, e1, e2⟩ := bndI_s e
  refine k_149_0 (by omega) (t_147 e1) ?_
  rintro _ _ ⟨rfl, rfl⟩
  exact r_149_4 hd hq e2
noncomputable def S_149 (v1 : Int32) (v2 : Int32) (v3 : Int32) (h : Hp) : Option (Int32 × Hp) := R_149_0 v1 v2 v3 h
set_option maxRecDepth 100000 in
theorem t_149 {v1 : Int32} {v2 : Int32} {v3 : Int32} {h : Hp} {r : Int32 × Hp} (e : S_149 v1 v2 v3 h = some r) : CI 2 149 [.ref 0, .int v1, .int v2, .int v3] h (fun x g => x = r.1 ∧ g = r.2) := by
  refine C.of mo_149 (Nat.le_of_ble_eq_true rfl) (fun X hq => ?_)
  exact r_149_0 (Nat.le_refl _) (hq _ _ ⟨_, rfl, rfl, rfl⟩) e
/-! 153 PlayedTruth$Host.refusalOf(II)I -/
noncomputable def R_153_27 (h : Hp) : Option (Int32 × Hp) := some (((-13)), h)
theorem r_153_27 {X : GX} {d : Nat} {r : Int32 × Hp} (hd : 1 ≤ d) (hq : RtX X (some (.int r.1)) r.2) {h : Hp} (e : R_153_27 h = some r) : G X d 153 27 [none, none, none] [] h := by
  unfold R_153_27 at e
  rw [← Option.some.inj e] at hq
  exact k_153_27 hq
noncomputable def R_153_23 (h : Hp) : Option (Int32 × Hp) := some (0, h)
theorem r_153_23 {X : GX} {d : Nat} {r : Int32 × Hp} (hd : 1 ≤ d) (hq : RtX X (some (.int r.1)) r.2) {h : Hp} (e : R_153_23 h = some r) : G X d 153 23 [none, none, none] [] h := by
  unfold R_153_23 at e
  rw [← Option.some.inj e] at hq
  exact k_153_23 hq
noncomputable def R_153_13 (v1 : Int32) (v2 : Int32) (h : Hp) : Option (Int32 × Hp) := gd (IA 51 v1) (if (h 51 (Int32.toNatClampNeg v1)) = v2 then R_153_23 h else R_153_27 h)
theorem r_153_13 {X : GX} {d : Nat} {r : Int32 × Hp} (hd : 1 ≤ d) (hq : RtX X (some (.int r.1)) r.2) {h : Hp} {v1 : Int32} {v2 : Int32} (e : R_153_13 v1 v2 h = some r) : G X d 153 13 [some (.ref 50), some (.int v1), some (.int v2)] [] h := by
  unfold R_153_13 at e
  have g := gd_s e; clear e; obtain ⟨b0, e⟩ := g
  refine k_153_13 b0 (fun c => ?_) (fun c => ?_)
  · rw [if_neg c] at e; exact r_153_27 hd hq e
  · rw [if_pos c] at e; exact r_153_23 hd hq e
noncomputable def R_153_10 (h : Hp) : Option (Int32 × Hp) := some (((-11)), h)
theorem r_153_10 {X : GX} {d : Nat} {r : Int32 × Hp} (hd : 1 ≤ d) (hq : RtX X (some (.int r.1)) r.2) {h : Hp} (e : R_153_10 h = some r) : G X d 153 10 [none, none, none] [] h := by
  unfold R_153_10 at e
  rw [← Option.some.inj e] at hq
  exact k_153_10 hq
noncomputable def R_153_0 (v1 : Int32) (v2 : Int32) (h : Hp) : Option (Int32 × Hp) := gd (IA 51 v1) (if (h 51 (Int32.toNatClampNeg v1)) = ((-1)) then R_153_10 h else R_153_13 v1 v2 h)
theorem r_153_0 {X : GX} {d : Nat} {r : Int32 × Hp} (hd : 1 ≤ d) (hq : RtX X (some (.int r.1)) r.2) {h : Hp} {v1 : Int32} {v2 : Int32} (e : R_153_0 v1 v2 h = some r) : G X d 153 0 [some (.ref 50), some (.int v1), some (.int v2)] [] h := by
  unfold R_153_0 at e
  have g := gd_s e; clear e; obtain ⟨b0, e⟩ := g
  refine k_153_0 b0 (fun c => ?_) (fun c => ?_)
  · rw [if_neg c] at e; exact r_153_13 hd hq e
  · rw [if_pos c] at e; exact r_153_10 hd hq e
noncomputable def S_153 (v1 : Int32) (v2 : Int32) (h : Hp) : Option (Int32 × Hp) := R_153_0 v1 v2 h
set_option maxRecDepth 100000 in
theorem t_153 {v1 : Int32} {v2 : Int32} {h : Hp} {r : Int32 × Hp} (e : S_153 v1 v2 h = some r) : CI 1 153 [.ref 50, .int v1, .int v2] h (fun x g => x = r.1 ∧ g = r.2) := by
  refine C.of mo_153 (Nat.le_of_ble_eq_true rfl) (fun X hq => ?_)
  exact r_153_0 (Nat.le_refl _) (hq _ _ ⟨_, rfl, rfl, rfl⟩) e
/-! 152 PlayedTruth.item(III)I -/
noncomputable def R_152_16 (h : Hp) : Option (Int32 × Hp) := some (((-1)), h)
theorem r_152_16 {X : GX} {d : Nat} {r : Int32 × Hp} (hd : 2 ≤ d) (hq : RtX X (some (.int r.1)) r.2) {h : Hp} (e : R_152_16 h = some r) : G X d 152 16 [none, none, none, none, none] [] h := by
  unfold R_152_16 at e
  rw [← Option.some.inj e] at hq
  exact k_152_16 hq
noncomputable def R_152_63 (h : Hp) : Option (Int32 × Hp) := some (((-12)), h)
theorem r_152_63 {X : GX} {d : Nat} {r : Int32 × Hp} (hd : 2 ≤ d) (hq : RtX X (some (.int r.1)) r.2) {h : Hp} (e : R_152_63 h = some r) : G X d 152 63 [none, none, none, none, none] [] h := by
  unfold R_152_63 at e
  rw [← Option.some.inj e] at hq
  exact k_152_63 hq
noncomputable def R_152_49 (v1 : Int32) (v3 : Int32) (h : Hp) : Option (Int32 × Hp) := gd (vp_in v1 4 ∧ IA (54 + Int32.toNatClampNeg v1) v3) (some ((h (54 + Int32.toNatClampNeg v1) (Int32.toNatClampNeg v3)), h))
theorem r_152_49 {X : GX} {d : Nat} {r : Int32 × Hp} (hd : 2 ≤ d) (hq : RtX X (some (.int r.1)) r.2) {h : Hp} {v1 : Int32} {v3 : Int32} (e : R_152_49 v1 v3 h = some r) : G X d 152 49 [some (.ref 0), some (.int v1), none, some (.int v3), none] [] h := by
  unfold R_152_49 at e
  have g := gd_s e; clear e; obtain ⟨⟨b0, b1⟩, e⟩ := g
  rw [← Option.some.inj e] at hq
  exact k_152_49 b0 b1 hq
noncomputable def R_152_46 (v1 : Int32) (v3 : Int32) (s0 : Int32) (h : Hp) : Option (Int32 × Hp) := if s0 = 0 then R_152_63 h else R_152_49 v1 v3 h
theorem r_152_46 {X : GX} {d : Nat} {r : Int32 × Hp} (hd : 2 ≤ d) (hq : RtX X (some (.int r.1)) r.2) {h : Hp} {v1 : Int32} {v3 : Int32} {s0 : Int32} (e : R_152_46 v1 v3 s0 h = some r) : G X d 152 46 [some (.ref 0), some (.int v1), none, some (.int v3), none] [.int s0] h := by
  unfold R_152_46 at e
  refine k_152_46 (fun c => ?_) (fun c => ?_)
  · rw [if_pos c] at e; exact r_152_63 hd hq e
  · rw [if_neg c] at e; exact r_152_49 hd hq e
noncomputable def R_152_37 (v1 : Int32) (v3 : Int32) (h : Hp) : Option (Int32 × Hp) := bndI (S_150 v1 v3 h) (R_152_46 v1 v3)
theorem r_152_37 {X : GX} {d : Nat} {r : Int32 × Hp} (hd : 2 ≤ d) (hq : RtX X (some (.int r.1)) r.2) {h : Hp} {v1 : Int32} {v3 : Int32} (e : R_152_37 v1 v3 h = some r) : G X d 152 37 [some (.ref 0), some (.int v1), none, some (.int v3), none] [] h := by
  unfold R_152_37 at e
  obtain ⟨x, h2, e1, e2⟩ := bndI_s e
  refine k_152_37 (by omega) (t_150 e1) ?_
  rintro _ _ ⟨rfl, rfl⟩
  exact r_152_46 hd hq e2
noncomputable def R_152_34 (v4 : Int32) (h : Hp) : Option (Int32 × Hp) := some (v4, h)
theorem r_152_34 {X : GX} {d : Nat} {r : Int32 × Hp} (hd : 2 ≤ d) (hq : RtX X (some (.int r.1)) r.2) {h : Hp} {v4 : Int32} (e : R_152_34 v4 h = some r) : G X d 152 34 [none, none, none, none, some (.int v4)] [] h := by
  unfold R_152_34 at e
  rw [← Option.some.inj e] at hq
  exact k_152_34 hq
noncomputable def R_152_27 (v1 : Int32) (v3 : Int32) (s0 : Int32) (h : Hp) : Option (Int32 × Hp) := if s0 = 0 then R_152_37 v1 v3 h else R_152_34 s0 h
theorem r_152_27 {X : GX} {d : Nat} {r : Int32 × Hp} (hd : 2 ≤ d) (hq : RtX X (some (.int r.1)) r.2) {h : Hp} {v1 : Int32} {v3 : Int32} {s0 : Int32} (e : R_152_27 v1 v3 s0 h = some r) : G X d 152 27 [some (.ref 0), some (.int v1), none, some (.int v3), none] [.int s0] h := by
  unfold R_152_27 at e
  refine k_152_27 (fun c => ?_) (fun c => ?_)
  · rw [if_pos c] at e; exact r_152_37 hd hq e
  · rw [if_neg c] at e; exact r_152_34 hd hq e
noncomputable def R_152_18 (v1 : Int32) (v2 : Int32) (v3 : Int32) (h : Hp) : Option (Int32 × Hp) := bndI (S_153 v1 v2 h) (R_152_27 v1 v3)
theorem r_152_18 {X : GX} {d : Nat} {r : Int32 × Hp} (hd : 2 ≤ d) (hq : RtX X (some (.int r.1)) r.2) {h : Hp} {v1 : Int32} {v2 : Int32} {v3 : Int32} (e : R_152_18 v1 v2 v3 h = some r) : G X d 152 18 [some (.ref 0), some (.int v1), some (.int v2), some (.int v3), none] [] h := by
  unfold R_152_18 at e
  obtain ⟨x, h2, e1, e2⟩ := bndI_s e
  refine k_152_18 (by omega) (t_153 e1) ?_
  rintro _ _ ⟨rfl, rfl⟩
  exact r_152_27 hd hq e2
noncomputable def R_152_13 (v1 : Int32) (v2 : Int32) (v3 : Int32) (s0 : Int32) (h : Hp) : Option (Int32 × Hp) := if s0 = 0 then R_152_16 h else R_152_18 v1 v2 v3 h
theorem r_152_13 {X : GX} {d : Nat} {r : Int32 × Hp} (hd : 2 ≤ d) (hq : RtX X (some (.int r.1)) r.2) {h : Hp} {v1 : Int32} {v2 : Int32} {v3 : Int32} {s0 : Int32} (e : R_152_13 v1 v2 v3 s0 h = some r) : G X d 152 13 [some (.ref 0), some (.int v1), some (.int v2), some (.int v3), none] [.int s0] h := by
  unfold R_152_13 at e
  refine k_152_13 (fun c => ?_) (fun c => ?_)
  · rw [if_neg c] at e; exact r_152_18 hd hq e
  · rw [if_pos c] at e; exact r_152_16 hd hq e
noncomputable def R_152_7 (v1 : Int32) (v2 : Int32) (v3 : Int32) (h : Hp) : Option (Int32 × Hp) := bndI (S_11 v2 0 4 h) (R_152_13 v1 v2 v3)
theorem r_152_7 {X : GX} {d : Nat} {r : Int32 × Hp} (hd : 2 ≤ d) (hq : RtX X (some (.int r.1)) r.2) {h : Hp} {v1 : Int32} {v2 : Int32} {v3 : Int32} (e : R_152_7 v1 v2 v3 h = some r) : G X d 152 7 [some (.ref 0), some (.int v1), some (.int v2), some (.int v3), none] [] h := by
  unfold R_152_7 at e
  obtain ⟨x, h2, e1, e2⟩ := bndI_s e
  refine k_152_7 (by omega) (t_11 e1) ?_
  rintro _ _ ⟨rfl, rfl⟩
  exact r_152_13 hd hq e2
noncomputable def R_152_4 (v1 : Int32) (v2 : Int32) (v3 : Int32) (s0 : Int32) (h : Hp) : Option (Int32 × Hp) := if s0 = 0 then R_152_16 h else R_152_7 v1 v2 v3 h
theorem r_152_4 {X : GX} {d : Nat} {r : Int32 × Hp} (hd : 2 ≤ d) (hq : RtX X (some (.int r.1)) r.2) {h : Hp} {v1 : Int32} {v2 : Int32} {v3 : Int32} {s0 : Int32} (e : R_152_4 v1 v2 v3 s0 h = some r) : G X d 152 4 [some (.ref 0), some (.int v1), some (.int v2), some (.int v3), none] [.int s0] h := by
  unfold R_152_4 at e
  refine k_152_4 (fun c => ?_) (fun c => ?_)
  · rw [if_pos c] at e; exact r_152_16 hd hq e
  · rw [if_neg c] at e; exact r_152_7 hd hq e
noncomputable def R_152_0 (v1 : Int32) (v2 : Int32) (v3 : Int32) (h : Hp) : Option (Int32 × Hp) := bndI (S_147 v1 h) (R_152_4 v1 v2 v3)
theorem r_152_0 {X : GX} {d : Nat} {r : Int32 × Hp} (hd : 2 ≤ d) (hq : RtX X (some (.int r.1)) r.2) {h : Hp} {v1 : Int32} {v2 : Int32} {v3 : Int32} (e : R_152_0 v1 v2 v3 h = some r) : G X d 152 0 [some (.ref 0), some (.int v1), some (.int v2), some (.int v3), none] [] h := by
  unfold R_152_0 at e
  obtain ⟨x, h2, e1, e2⟩ := bndI_s e
  refine k_152_0 (by omega) (t_147 e1) ?_
  rintro _ _ ⟨rfl, rfl⟩
  exact r_152_4 hd hq e2
noncomputable def S_152 (v1 : Int32) (v2 : Int32) (v3 : Int32) (h : Hp) : Option (Int32 × Hp) := R_152_0 v1 v2 v3 h
set_option maxRecDepth 100000 in
theorem t_152 {v1 : Int32} {v2 : Int32} {v3 : Int32} {h : Hp} {r : Int32 × Hp} (e : S_152 v1 v2 v3 h = some r) : CI 2 152 [.ref 0, .int v1, .int v2, .int v3] h (fun x g => x = r.1 ∧ g = r.2) := by
  refine C.of mo_152 (Nat.le_of_ble_eq_true rfl) (fun X hq => ?_)
  exact r_152_0 (Nat.le_refl _) (hq _ _ ⟨_, rfl, rfl, rfl⟩) e
/-! 154 PlayedTruth.goAll(III)I -/
noncomputable def R_154_17 (h : Hp) : Option (Int32 × Hp) := some (((-1)), h)
theorem r_154_17 {X : GX} {d : Nat} {r : Int32 × Hp} (hd : 6 ≤ d) (hq : RtX X (some (.int r.1)) r.2) {h : Hp} (e : R_154_17 h = some r) : G X d 154 17 [none, none, none, none, none, none, none, none] [] h := by
  unfold R_154_17 at e
  rw [← Option.some.inj e] at hq
  exact k_154_17 hq
noncomputable def R_154_134 (v5 : Int32) (h : Hp) : Option (Int32 × Hp) := some (v5, h)
theorem r_154_134 {X : GX} {d : Nat} {r : Int32 × Hp} (hd : 6 ≤ d) (hq : RtX X (some (.int r.1)) r.2) {h : Hp} {v5 : Int32} (e : R_154_134 v5 h = some r) : G X d 154 134 [none, none, none, none, none, some (.int v5), none, none] [] h := by
  unfold R_154_134 at e
  rw [← Option.some.inj e] at hq
  exact k_154_134 hq
noncomputable def R_154_128 (rec_44 : Int32 → Int32 → Int32 → Int32 → Int32 → Hp → Option (Int32 × Hp)) (v1 : Int32) (v2 : Int32) (v3 : Int32) (v5 : Int32) (v6 : Int32) (h : Hp) : Option (Int32 × Hp) := rec_44 v1 v2 v3 v5 (v6 + 1) h
theorem r_154_128 {X : GX} {d : Nat} {r : Int32 × Hp} (hd : 6 ≤ d) (hq : RtX X (some (.int r.1)) r.2) {rec_44 : Int32 → Int32 → Int32 → Int32 → Int32 → Hp → Option (Int32 × Hp)} (hr_44 : ∀ {v1 : Int32} {v2 : Int32} {v3 : Int32} {v5 : Int32} {v6 : Int32} {h : Hp}, rec_44 v1 v2 v3 v5 v6 h = some r → G X d 154 44 [some (.ref 0), some (.int v1), some (.int v2), some (.int v3), none, some (.int v5), some (.int v6), none] [] h) {h : Hp} {v1 : Int32} {v2 : Int32} {v3 : Int32} {v5 : Int32} {v6 : Int32} (e : R_154_128 rec_44 v1 v2 v3 v5 v6 h = some r) : G X d 154 128 [some (.ref 0), some (.int v1), some (.int v2), some (.int v3), none, some (.int v5), some (.int v6), none] [] h := by
  unfold R_154_128 at e
  exact k_154_128 (hr_44 e)
noncomputable def R_154_125 (rec_44 : Int32 → Int32 → Int32 → Int32 → Int32 → Hp → Option (Int32 × Hp)) (v1 : Int32) (v2 : Int32) (v3 : Int32) (v6 : Int32) (s1 : Int32) (s0 : Int32) (h : Hp) : Option (Int32 × Hp) := rec_44 v1 v2 v3 (s1 + s0) (v6 + 1) h
theorem r_154_125 {X : GX} {d : Nat} {r : Int32 × Hp} (hd : 6 ≤ d) (hq : RtX X (some (.int r.1)) r.2) {rec_44 : Int32 → Int32 → Int32 → Int32 → Int32 → Hp → Option (Int32 × Hp)} (hr_44 : ∀ {v1 : Int32} {v2 : Int32} {v3 : Int32} {v5 : Int32} {v6 : Int32} {h : Hp}, rec_44 v1 v2 v3 v5 v6 h = some r → G X d 154 44 [some (.ref 0), some (.int v1), some (.int v2), some (.int v3), none, some (.int v5), some (.int v6), none] [] h) {h : Hp} {v1 : Int32} {v2 : Int32} {v3 : Int32} {v6 : Int32} {s1 : Int32} {s0 : Int32} (e : R_154_125 rec_44 v1 v2 v3 v6 s1 s0 h = some r) : G X d 154 125 [some (.ref 0), some (.int v1), some (.int v2), some (.int v3), none, none, some (.int v6), none] [.int s0, .int s1] h := by
  unfold R_154_125 at e
  exact k_154_125 (hr_44 e)
noncomputable def R_154_110 (rec_44 : Int32 → Int32 → Int32 → Int32 → Int32 → Hp → Option (Int32 × Hp)) (v1 : Int32) (v2 : Int32) (v3 : Int32) (v5 : Int32) (v6 : Int32) (v7 : Int32) (h : Hp) : Option (Int32 × Hp) := bndI (S_81 13 v7 h) (R_154_125 rec_44 v1 v2 v3 v6 v5)
theorem r_154_110 {X : GX} {d : Nat} {r : Int32 × Hp} (hd : 6 ≤ d) (hq : RtX X (some (.int r.1)) r.2) {rec_44 : Int32 → Int32 → Int32 → Int32 → Int32 → Hp → Option (Int32 × Hp)} (hr_44 : ∀ {v1 : Int32} {v2 : Int32} {v3 : Int32} {v5 : Int32} {v6 : Int32} {h : Hp}, rec_44 v1 v2 v3 v5 v6 h = some r → G X d 154 44 [some (.ref 0), some (.int v1), some (.int v2), some (.int v3), none, some (.int v5), some (.int v6), none] [] h) {h : Hp} {v1 : Int32} {v2 : Int32} {v3 : Int32} {v5 : Int32} {v6 : Int32} {v7 : Int32} (e : R_154_110 rec_44 v1 v2 v3 v5 v6 v7 h = some r) : G X d 154 110 [some (.ref 0), some (.int v1), some (.int v2), some (.int v3), none, some (.int v5), some (.int v6), some (.int v7)] [] h := by
  unfold R_154_110 at e
  obtain ⟨x, h2, e1, e2⟩ := bndI_s e
  refine k_154_110 (by omega) (t_81 e1) ?_
  rintro _ _ ⟨rfl, rfl⟩
  exact r_154_125 hd hq hr_44 e2
noncomputable def R_154_107 (rec_44 : Int32 → Int32 → Int32 → Int32 → Int32 → Hp → Option (Int32 × Hp)) (v1 : Int32) (v2 : Int32) (v3 : Int32) (v5 : Int32) (v6 : Int32) (v7 : Int32) (s0 : Int32) (h : Hp) : Option (Int32 × Hp) := if s0 = 0 then R_154_110 rec_44 v1 v2 v3 v5 v6 v7 h else R_154_128 rec_44 v1 v2 v3 v5 v6 h
theorem r_154_107 {X : GX} {d : Nat} {r : Int32 × Hp} (hd : 6 ≤ d) (hq : RtX X (some (.int r.1)) r.2) {rec_44 : Int32 → Int32 → Int32 → Int32 → Int32 → Hp → Option (Int32 × Hp)} (hr_44 : ∀ {v1 : Int32} {v2 : Int32} {v3 : Int32} {v5 : Int32} {v6 : Int32} {h : Hp}, rec_44 v1 v2 v3 v5 v6 h = some r → G X d 154 44 [some (.ref 0), some (.int v1), some (.int v2), some (.int v3), none, some (.int v5), some (.int v6), none] [] h) {h : Hp} {v1 : Int32} {v2 : Int32} {v3 : Int32} {v5 : Int32} {v6 : Int32} {v7 : Int32} {s0 : Int32} (e : R_154_107 rec_44 v1 v2 v3 v5 v6 v7 s0 h = some r) : G X d 154 107 [some (.ref 0), some (.int v1), some (.int v2), some (.int v3), none, some (.int v5), some (.int v6), some (.int v7)] [.int s0] h := by
  unfold R_154_107 at e
  refine k_154_107 (fun c => ?_) (fun c => ?_)
  · rw [if_neg c] at e; exact r_154_128 hd hq hr_44 e
  · rw [if_pos c] at e; exact r_154_110 hd hq hr_44 e
noncomputable def R_154_96 (rec_44 : Int32 → Int32 → Int32 → Int32 → Int32 → Hp → Option (Int32 × Hp)) (v1 : Int32) (v2 : Int32) (v3 : Int32) (v5 : Int32) (v6 : Int32) (v7 : Int32) (h : Hp) : Option (Int32 × Hp) := bndI (S_38 13 h) (R_154_107 rec_44 v1 v2 v3 v5 v6 v7)
theorem r_154_96 {X : GX} {d : Nat} {r : Int32 × Hp} (hd : 6 ≤ d) (hq : RtX X (some (.int r.1)) r.2) {rec_44 : Int32 → Int32 → Int32 → Int32 → Int32 → Hp → Option (Int32 × Hp)} (hr_44 : ∀ {v1 : Int32} {v2 : Int32} {v3 : Int32} {v5 : Int32} {v6 : Int32} {h : Hp}, rec_44 v1 v2 v3 v5 v6 h = some r → G X d 154 44 [some (.ref 0), some (.int v1), some (.int v2), some (.int v3), none, some (.int v5), some (.int v6), none] [] h) {h : Hp} {v1 : Int32} {v2 : Int32} {v3 : Int32} {v5 : Int32} {v6 : Int32} {v7 : Int32} (e : R_154_96 rec_44 v1 v2 v3 v5 v6 v7 h = some r) : G X d 154 96 [some (.ref 0), some (.int v1), some (.int v2), some (.int v3), none, some (.int v5), some (.int v6), some (.int v7)] [] h := by
  unfold R_154_96 at e
  obtain ⟨x, h2, e1, e2⟩ := bndI_s e
  refine k_154_96 (by omega) (t_38 e1) ?_
  rintro _ _ ⟨rfl, rfl⟩
  exact r_154_107 hd hq hr_44 e2
noncomputable def R_154_93 (rec_44 : Int32 → Int32 → Int32 → Int32 → Int32 → Hp → Option (Int32 × Hp)) (v1 : Int32) (v2 : Int32) (v3 : Int32) (v5 : Int32) (v6 : Int32) (v7 : Int32) (s0 : Int32) (h : Hp) : Option (Int32 × Hp) := if s0 = 0 then R_154_128 rec_44 v1 v2 v3 v5 v6 h else R_154_96 rec_44 v1 v2 v3 v5 v6 v7 h
theorem r_154_93 {X : GX} {d : Nat} {r : Int32 × Hp} (hd : 6 ≤ d) (hq : RtX X (some (.int r.1)) r.2) {rec_44 : Int32 → Int32 → Int32 → Int32 → Int32 → Hp → Option (Int32 × Hp)} (hr_44 : ∀ {v1 : Int32} {v2 : Int32} {v3 : Int32} {v5 : Int32} {v6 : Int32} {h : Hp}, rec_44 v1 v2 v3 v5 v6 h = some r → G X d 154 44 [some (.ref 0), some (.int v1), some (.int v2), some (.int v3), none, some (.int v5), some (.int v6), none] [] h) {h : Hp} {v1 : Int32} {v2 : Int32} {v3 : Int32} {v5 : Int32} {v6 : Int32} {v7 : Int32} {s0 : Int32} (e : R_154_93 rec_44 v1 v2 v3 v5 v6 v7 s0 h = some r) : G X d 154 93 [some (.ref 0), some (.int v1), some (.int v2), some (.int v3), none, some (.int v5), some (.int v6), some (.int v7)] [.int s0] h := by
  unfold R_154_93 at e
  refine k_154_93 (fun c => ?_) (fun c => ?_)
  · rw [if_pos c] at e; exact r_154_128 hd hq hr_44 e
  · rw [if_neg c] at e; exact r_154_96 hd hq hr_44 e
noncomputable def R_154_68 (rec_44 : Int32 → Int32 → Int32 → Int32 → Int32 → Hp → Option (Int32 × Hp)) (v1 : Int32) (v2 : Int32) (v3 : Int32) (v5 : Int32) (v6 : Int32) (h : Hp) : Option (Int32 × Hp) := gd (vp_in v1 4 ∧ IA (54 + Int32.toNatClampNeg v1) (v2 + v6)) (bndI (S_145 (h (54 + Int32.toNatClampNeg v1) (Int32.toNatClampNeg (v2 + v6))) h) (R_154_93 rec_44 v1 v2 v3 v5 v6 (h (54 + Int32.toNatClampNeg v1) (Int32.toNatClampNeg (v2 + v6)))))
theorem r_154_68 {X : GX} {d : Nat} {r : Int32 × Hp} (hd : 6 ≤ d) (hq : RtX X (some (.int r.1)) r.2) {rec_44 : Int32 → Int32 → Int32 → Int32 → Int32 → Hp → Option (Int32 × Hp)} (hr_44 : ∀ {v1 : Int32} {v2 : Int32} {v3 : Int32} {v5 : Int32} {v6 : Int32} {h : Hp}, rec_44 v1 v2 v3 v5 v6 h = some r → G X d 154 44 [some (.ref 0), some (.int v1), some (.int v2), some (.int v3), none, some (.int v5), some (.int v6), none] [] h) {h : Hp} {v1 : Int32} {v2 : Int32} {v3 : Int32} {v5 : Int32} {v6 : Int32} (e : R_154_68 rec_44 v1 v2 v3 v5 v6 h = some r) : G X d 154 68 [some (.ref 0), some (.int v1), some (.int v2), some (.int v3), none, some (.int v5), some (.int v6), none] [] h := by
  unfold R_154_68 at e
  have g := gd_s e; clear e; obtain ⟨⟨b0, b1⟩, e⟩ := g
  obtain ⟨x, h2, e1, e2⟩ := bndI_s e
  refine k_154_68 b0 b1 (by omega) (t_145 e1) ?_
  rintro _ _ ⟨rfl, rfl⟩
  exact r_154_93 hd hq hr_44 e2
noncomputable def R_154_65 (h : Hp) : Option (Int32 × Hp) := some (((-12)), h)
theorem r_154_65 {X : GX} {d : Nat} {r : Int32 × Hp} (hd : 6 ≤ d) (hq : RtX X (some (.int r.1)) r.2) {h : Hp} (e : R_154_65 h = some r) : G X d 154 65 [none, none, none, none, none, none, none, none] [] h := by
  unfold R_154_65 at e
  rw [← Option.some.inj e] at hq
  exact k_154_65 hq
noncomputable def R_154_62 (rec_44 : Int32 → Int32 → Int32 → Int32 → Int32 → Hp → Option (Int32 × Hp)) (v1 : Int32) (v2 : Int32) (v3 : Int32) (v5 : Int32) (v6 : Int32) (s0 : Int32) (h : Hp) : Option (Int32 × Hp) := if s0 = 0 then R_154_65 h else R_154_68 rec_44 v1 v2 v3 v5 v6 h
theorem r_154_62 {X : GX} {d : Nat} {r : Int32 × Hp} (hd : 6 ≤ d) (hq : RtX X (some (.int r.1)) r.2) {rec_44 : Int32 → Int32 → Int32 → Int32 → Int32 → Hp → Option (Int32 × Hp)} (hr_44 : ∀ {v1 : Int32} {v2 : Int32} {v3 : Int32} {v5 : Int32} {v6 : Int32} {h : Hp}, rec_44 v1 v2 v3 v5 v6 h = some r → G X d 154 44 [some (.ref 0), some (.int v1), some (.int v2), some (.int v3), none, some (.int v5), some (.int v6), none] [] h) {h : Hp} {v1 : Int32} {v2 : Int32} {v3 : Int32} {v5 : Int32} {v6 : Int32} {s0 : Int32} (e : R_154_62 rec_44 v1 v2 v3 v5 v6 s0 h = some r) : G X d 154 62 [some (.ref 0), some (.int v1), some (.int v2), some (.int v3), none, some (.int v5), some (.int v6), none] [.int s0] h := by
  unfold R_154_62 at e
  refine k_154_62 (fun c => ?_) (fun c => ?_)
  · rw [if_neg c] at e; exact r_154_68 hd hq hr_44 e
  · rw [if_pos c] at e; exact r_154_65 hd hq e
noncomputable def R_154_50 (rec_44 : Int32 → Int32 → Int32 → Int32 → Int32 → Hp → Option (Int32 × Hp)) (v1 : Int32) (v2 : Int32) (v3 : Int32) (v5 : Int32) (v6 : Int32) (h : Hp) : Option (Int32 × Hp) := bndI (S_150 v1 (v2 + v6) h) (R_154_62 rec_44 v1 v2 v3 v5 v6)
theorem r_154_50 {X : GX} {d : Nat} {r : Int32 × Hp} (hd : 6 ≤ d) (hq : RtX X (some (.int r.1)) r.2) {rec_44 : Int32 → Int32 → Int32 → Int32 → Int32 → Hp → Option (Int32 × Hp)} (hr_44 : ∀ {v1 : Int32} {v2 : Int32} {v3 : Int32} {v5 : Int32} {v6 : Int32} {h : Hp}, rec_44 v1 v2 v3 v5 v6 h = some r → G X d 154 44 [some (.ref 0), some (.int v1), some (.int v2), some (.int v3), none, some (.int v5), some (.int v6), none] [] h) {h : Hp} {v1 : Int32} {v2 : Int32} {v3 : Int32} {v5 : Int32} {v6 : Int32} (e : R_154_50 rec_44 v1 v2 v3 v5 v6 h = some r) : G X d 154 50 [some (.ref 0), some (.int v1), some (.int v2), some (.int v3), none, some (.int v5), some (.int v6), none] [] h := by
  unfold R_154_50 at e
  obtain ⟨x, h2, e1, e2⟩ := bndI_s e
  refine k_154_50 (by omega) (t_150 e1) ?_
  rintro _ _ ⟨rfl, rfl⟩
  exact r_154_62 hd hq hr_44 e2
noncomputable def R_154_44 (rec_44 : Int32 → Int32 → Int32 → Int32 → Int32 → Hp → Option (Int32 × Hp)) (v1 : Int32) (v2 : Int32) (v3 : Int32) (v5 : Int32) (v6 : Int32) (h : Hp) : Option (Int32 × Hp) := if v3 ≤ v6 then R_154_134 v5 h else R_154_50 rec_44 v1 v2 v3 v5 v6 h
theorem r_154_44 {X : GX} {d : Nat} {r : Int32 × Hp} (hd : 6 ≤ d) (hq : RtX X (some (.int r.1)) r.2) {rec_44 : Int32 → Int32 → Int32 → Int32 → Int32 → Hp → Option (Int32 × Hp)} (hr_44 : ∀ {v1 : Int32} {v2 : Int32} {v3 : Int32} {v5 : Int32} {v6 : Int32} {h : Hp}, rec_44 v1 v2 v3 v5 v6 h = some r → G X d 154 44 [some (.ref 0), some (.int v1), some (.int v2), some (.int v3), none, some (.int v5), some (.int v6), none] [] h) {h : Hp} {v1 : Int32} {v2 : Int32} {v3 : Int32} {v5 : Int32} {v6 : Int32} (e : R_154_44 rec_44 v1 v2 v3 v5 v6 h = some r) : G X d 154 44 [some (.ref 0), some (.int v1), some (.int v2), some (.int v3), none, some (.int v5), some (.int v6), none] [] h := by
  unfold R_154_44 at e
  refine k_154_44 (fun c => ?_) (fun c => ?_)
  · rw [if_pos c] at e; exact r_154_134 hd hq e
  · rw [if_neg c] at e; exact r_154_50 hd hq hr_44 e
noncomputable def H_154_44 : Nat → Int32 → Int32 → Int32 → Int32 → Int32 → Hp → Option (Int32 × Hp)
  | 0, _, _, _, _, _, _ => none
  | n + 1, v1, v2, v3, v5, v6, h => R_154_44 (H_154_44 n) v1 v2 v3 v5 v6 h
theorem h_154_44 {X : GX} {d : Nat} {r : Int32 × Hp} (hd : 6 ≤ d) (hq : RtX X (some (.int r.1)) r.2) {n : Nat} {h : Hp} {v1 : Int32} {v2 : Int32} {v3 : Int32} {v5 : Int32} {v6 : Int32} (e : H_154_44 n v1 v2 v3 v5 v6 h = some r) : G X d 154 44 [some (.ref 0), some (.int v1), some (.int v2), some (.int v3), none, some (.int v5), some (.int v6), none] [] h := by
  induction n generalizing v1 v2 v3 v5 v6 h with
  | zero => cases e
  | succ n ih => exact r_154_44 hd hq (fun e => ih e) e
noncomputable def R_154_38 (v1 : Int32) (v2 : Int32) (v3 : Int32) (h : Hp) : Option (Int32 × Hp) := H_154_44 fuL v1 v2 v3 0 0 h
theorem r_154_38 {X : GX} {d : Nat} {r : Int32 × Hp} (hd : 6 ≤ d) (hq : RtX X (some (.int r.1)) r.2) {h : Hp} {v1 : Int32} {v2 : Int32} {v3 : Int32} (e : R_154_38 v1 v2 v3 h = some r) : G X d 154 38 [some (.ref 0), some (.int v1), some (.int v2), some (.int v3), none, none, none, none] [] h := by
  unfold R_154_38 at e
  exact k_154_38 (h_154_44 hd hq e)
noncomputable def R_154_35 (v4 : Int32) (h : Hp) : Option (Int32 × Hp) := some (v4, h)
theorem r_154_35 {X : GX} {d : Nat} {r : Int32 × Hp} (hd : 6 ≤ d) (hq : RtX X (some (.int r.1)) r.2) {h : Hp} {v4 : Int32} (e : R_154_35 v4 h = some r) : G X d 154 35 [none, none, none, none, some (.int v4), none, none, none] [] h := by
  unfold R_154_35 at e
  rw [← Option.some.inj e] at hq
  exact k_154_35 hq
noncomputable def R_154_28 (v1 : Int32) (v2 : Int32) (v3 : Int32) (s0 : Int32) (h : Hp) : Option (Int32 × Hp) := if s0 = 0 then R_154_38 v1 v2 v3 h else R_154_35 s0 h
theorem r_154_28 {X : GX} {d : Nat} {r : Int32 × Hp} (hd : 6 ≤ d) (hq : RtX X (some (.int r.1)) r.2) {h : Hp} {v1 : Int32} {v2 : Int32} {v3 : Int32} {s0 : Int32} (e : R_154_28 v1 v2 v3 s0 h = some r) : G X d 154 28 [some (.ref 0), some (.int v1), some (.int v2), some (.int v3), none, none, none, none] [.int s0] h := by
  unfold R_154_28 at e
  refine k_154_28 (fun c => ?_) (fun c => ?_)
  · rw [if_pos c] at e; exact r_154_38 hd hq e
  · rw [if_neg c] at e; exact r_154_35 hd hq e
noncomputable def R_154_19 (v1 : Int32) (v2 : Int32) (v3 : Int32) (h : Hp) : Option (Int32 × Hp) := bndI (S_153 v1 0 h) (R_154_28 v1 v2 v3)
theorem r_154_19 {X : GX} {d : Nat} {r : Int32 × Hp} (hd : 6 ≤ d) (hq : RtX X (some (.int r.1)) r.2) {h : Hp} {v1 : Int32} {v2 : Int32} {v3 : Int32} (e : R_154_19 v1 v2 v3 h = some r) : G X d 154 19 [some (.ref 0), some (.int v1), some (.int v2), some (.int v3), none, none, none, none] [] h := by
  unfold R_154_19 at e
  obtain ⟨x, h2, e1, e2⟩ := bndI_s e
  refine k_154_19 (by omega) (t_153 e1) ?_
  rintro _ _ ⟨rfl, rfl⟩
  exact r_154_28 hd hq e2
noncomputable def R_154_14 (v1 : Int32) (v2 : Int32) (v3 : Int32) (s0 : Int32) (h : Hp) : Option (Int32 × Hp) := if s0 = 0 then R_154_17 h else R_154_19 v1 v2 v3 h
theorem r_154_14 {X : GX} {d : Nat} {r : Int32 × Hp} (hd : 6 ≤ d) (hq : RtX X (some (.int r.1)) r.2) {h : Hp} {v1 : Int32} {v2 : Int32} {v3 : Int32} {s0 : Int32} (e : R_154_14 v1 v2 v3 s0 h = some r) : G X d 154 14 [some (.ref 0), some (.int v1), some (.int v2), some (.int v3), none, none, none, none] [.int s0] h := by
  unfold R_154_14 at e
  refine k_154_14 (fun c => ?_) (fun c => ?_)
  · rw [if_neg c] at e; exact r_154_19 hd hq e
  · rw [if_pos c] at e; exact r_154_17 hd hq e
noncomputable def R_154_7 (v1 : Int32) (v2 : Int32) (v3 : Int32) (h : Hp) : Option (Int32 × Hp) := bndI (S_11 v3 0 20 h) (R_154_14 v1 v2 v3)
theorem r_154_7 {X : GX} {d : Nat} {r : Int32 × Hp} (hd : 6 ≤ d) (hq : RtX X (some (.int r.1)) r.2) {h : Hp} {v1 : Int32} {v2 : Int32} {v3 : Int32} (e : R_154_7 v1 v2 v3 h = some r) : G X d 154 7 [some (.ref 0), some (.int v1), some (.int v2), some (.int v3), none, none, none, none] [] h := by
  unfold R_154_7 at e
  obtain ⟨x, h2, e1, e2⟩ := bndI_s e
  refine k_154_7 (by omega) (t_11 e1) ?_
  rintro _ _ ⟨rfl, rfl⟩
  exact r_154_14 hd hq e2
noncomputable def R_154_4 (v1 : Int32) (v2 : Int32) (v3 : Int32) (s0 : Int32) (h : Hp) : Option (Int32 × Hp) := if s0 = 0 then R_154_17 h else R_154_7 v1 v2 v3 h
theorem r_154_4 {X : GX} {d : Nat} {r : Int32 × Hp} (hd : 6 ≤ d) (hq : RtX X (some (.int r.1)) r.2) {h : Hp} {v1 : Int32} {v2 : Int32} {v3 : Int32} {s0 : Int32} (e : R_154_4 v1 v2 v3 s0 h = some r) : G X d 154 4 [some (.ref 0), some (.int v1), some (.int v2), some (.int v3), none, none, none, none] [.int s0] h := by
  unfold R_154_4 at e
  refine k_154_4 (fun c => ?_) (fun c => ?_)
  · rw [if_pos c] at e; exact r_154_17 hd hq e
  · rw [if_neg c] at e; exact r_154_7 hd hq e
noncomputable def R_154_0 (v1 : Int32) (v2 : Int32) (v3 : Int32) (h : Hp) : Option (Int32 × Hp) := bndI (S_147 v1 h) (R_154_4 v1 v2 v3)
theorem r_154_0 {X : GX} {d : Nat} {r : Int32 × Hp} (hd : 6 ≤ d) (hq : RtX X (some (.int r.1)) r.2) {h : Hp} {v1 : Int32} {v2 : Int32} {v3 : Int32} (e : R_154_0 v1 v2 v3 h = some r) : G X d 154 0 [some (.ref 0), some (.int v1), some (.int v2), some (.int v3), none, none, none, none] [] h := by
  unfold R_154_0 at e
  obtain ⟨x, h2, e1, e2⟩ := bndI_s e
  refine k_154_0 (by omega) (t_147 e1) ?_
  rintro _ _ ⟨rfl, rfl⟩
  exact r_154_4 hd hq e2
noncomputable def S_154 (v1 : Int32) (v2 : Int32) (v3 : Int32) (h : Hp) : Option (Int32 × Hp) := R_154_0 v1 v2 v3 h
set_option maxRecDepth 100000 in
theorem t_154 {v1 : Int32} {v2 : Int32} {v3 : Int32} {h : Hp} {r : Int32 × Hp} (e : S_154 v1 v2 v3 h = some r) : CI 6 154 [.ref 0, .int v1, .int v2, .int v3] h (fun x g => x = r.1 ∧ g = r.2) := by
  refine C.of mo_154 (Nat.le_of_ble_eq_true rfl) (fun X hq => ?_)
  exact r_154_0 (Nat.le_refl _) (hq _ _ ⟨_, rfl, rfl, rfl⟩) e
/-! 156 PlayedTruth$Ahead.worthOfItems(LPlayedTruth$Host;III)I -/
noncomputable def R_156_89 (v5 : Nat) (h : Hp) : Option (Int32 × Hp) := gd (sh v5 = (1, 3)) (some (((h v5 4) - (h 13 4)), h))
theorem r_156_89 {X : GX} {d : Nat} {r : Int32 × Hp} (hd : 6 ≤ d) (hq : RtX X (some (.int r.1)) r.2) {h : Hp} {v5 : Nat} (e : R_156_89 v5 h = some r) : G X d 156 89 [some (.ref 31), none, none, none, none, some (.ref v5), none, none] [] h := by
  unfold R_156_89 at e
  have g := gd_s e; clear e; obtain ⟨o0, e⟩ := g
  rw [← Option.some.inj e] at hq
  exact k_156_89 o0 hq
noncomputable def R_156_68 (h : Hp) : Option (Int32 × Hp) := some (((-4)), h)
theorem r_156_68 {X : GX} {d : Nat} {r : Int32 × Hp} (hd : 6 ≤ d) (hq : RtX X (some (.int r.1)) r.2) {h : Hp} (e : R_156_68 h = some r) : G X d 156 68 [none, none, none, none, none, none, none, none] [] h := by
  unfold R_156_68 at e
  rw [← Option.some.inj e] at hq
  exact k_156_68 hq
noncomputable def R_156_82 (rec_9 : Nat → Int32 → Int32 → Int32 → Nat → Int32 → Hp → Option (Int32 × Hp)) (v1 : Nat) (v2 : Int32) (v3 : Int32) (v4 : Int32) (v5 : Nat) (v6 : Int32) (s0 : Int32) (h : Hp) : Option (Int32 × Hp) := rec_9 v1 v2 v3 v4 v5 (v6 + 1) h
theorem r_156_82 {X : GX} {d : Nat} {r : Int32 × Hp} (hd : 6 ≤ d) (hq : RtX X (some (.int r.1)) r.2) {rec_9 : Nat → Int32 → Int32 → Int32 → Nat → Int32 → Hp → Option (Int32 × Hp)} (hr_9 : ∀ {v1 : Nat} {v2 : Int32} {v3 : Int32} {v4 : Int32} {v5 : Nat} {v6 : Int32} {h : Hp}, rec_9 v1 v2 v3 v4 v5 v6 h = some r → G X d 156 9 [some (.ref 31), some (.ref v1), some (.int v2), some (.int v3), some (.int v4), some (.ref v5), some (.int v6), none] [] h) {h : Hp} {v1 : Nat} {v2 : Int32} {v3 : Int32} {v4 : Int32} {v5 : Nat} {v6 : Int32} {s0 : Int32} (e : R_156_82 rec_9 v1 v2 v3 v4 v5 v6 s0 h = some r) : G X d 156 82 [some (.ref 31), some (.ref v1), some (.int v2), some (.int v3), some (.int v4), some (.ref v5), some (.int v6), none] [.int s0] h := by
  unfold R_156_82 at e
  exact k_156_82 (hr_9 e)
noncomputable def R_156_71 (rec_9 : Nat → Int32 → Int32 → Int32 → Nat → Int32 → Hp → Option (Int32 × Hp)) (v1 : Nat) (v2 : Int32) (v3 : Int32) (v4 : Int32) (v5 : Nat) (v6 : Int32) (v7 : Int32) (h : Hp) : Option (Int32 × Hp) := bndI (S_81 v5 v7 h) (R_156_82 rec_9 v1 v2 v3 v4 v5 v6)
theorem r_156_71 {X : GX} {d : Nat} {r : Int32 × Hp} (hd : 6 ≤ d) (hq : RtX X (some (.int r.1)) r.2) {rec_9 : Nat → Int32 → Int32 → Int32 → Nat → Int32 → Hp → Option (Int32 × Hp)} (hr_9 : ∀ {v1 : Nat} {v2 : Int32} {v3 : Int32} {v4 : Int32} {v5 : Nat} {v6 : Int32} {h : Hp}, rec_9 v1 v2 v3 v4 v5 v6 h = some r → G X d 156 9 [some (.ref 31), some (.ref v1), some (.int v2), some (.int v3), some (.int v4), some (.ref v5), some (.int v6), none] [] h) {h : Hp} {v1 : Nat} {v2 : Int32} {v3 : Int32} {v4 : Int32} {v5 : Nat} {v6 : Int32} {v7 : Int32} (e : R_156_71 rec_9 v1 v2 v3 v4 v5 v6 v7 h = some r) : G X d 156 71 [some (.ref 31), some (.ref v1), some (.int v2), some (.int v3), some (.int v4), some (.ref v5), some (.int v6), some (.int v7)] [] h := by
  unfold R_156_71 at e
  obtain ⟨x, h2, e1, e2⟩ := bndI_s e
  refine k_156_71 (by omega) (t_81 e1) ?_
  rintro _ _ ⟨rfl, rfl⟩
  exact r_156_82 hd hq hr_9 e2
noncomputable def R_156_65 (rec_9 : Nat → Int32 → Int32 → Int32 → Nat → Int32 → Hp → Option (Int32 × Hp)) (v1 : Nat) (v2 : Int32) (v3 : Int32) (v4 : Int32) (v5 : Nat) (v6 : Int32) (v7 : Int32) (s0 : Int32) (h : Hp) : Option (Int32 × Hp) := if s0 = 0 then R_156_71 rec_9 v1 v2 v3 v4 v5 v6 v7 h else R_156_68 h
theorem r_156_65 {X : GX} {d : Nat} {r : Int32 × Hp} (hd : 6 ≤ d) (hq : RtX X (some (.int r.1)) r.2) {rec_9 : Nat → Int32 → Int32 → Int32 → Nat → Int32 → Hp → Option (Int32 × Hp)} (hr_9 : ∀ {v1 : Nat} {v2 : Int32} {v3 : Int32} {v4 : Int32} {v5 : Nat} {v6 : Int32} {h : Hp}, rec_9 v1 v2 v3 v4 v5 v6 h = some r → G X d 156 9 [some (.ref 31), some (.ref v1), some (.int v2), some (.int v3), some (.int v4), some (.ref v5), some (.int v6), none] [] h) {h : Hp} {v1 : Nat} {v2 : Int32} {v3 : Int32} {v4 : Int32} {v5 : Nat} {v6 : Int32} {v7 : Int32} {s0 : Int32} (e : R_156_65 rec_9 v1 v2 v3 v4 v5 v6 v7 s0 h = some r) : G X d 156 65 [some (.ref 31), some (.ref v1), some (.int v2), some (.int v3), some (.int v4), some (.ref v5), some (.int v6), some (.int v7)] [.int s0] h := by
  unfold R_156_65 at e
  refine k_156_65 (fun c => ?_) (fun c => ?_)
  · rw [if_pos c] at e; exact r_156_71 hd hq hr_9 e
  · rw [if_neg c] at e; exact r_156_68 hd hq e
noncomputable def R_156_56 (rec_9 : Nat → Int32 → Int32 → Int32 → Nat → Int32 → Hp → Option (Int32 × Hp)) (v1 : Nat) (v2 : Int32) (v3 : Int32) (v4 : Int32) (v5 : Nat) (v6 : Int32) (v7 : Int32) (h : Hp) : Option (Int32 × Hp) := bndI (S_38 v5 h) (R_156_65 rec_9 v1 v2 v3 v4 v5 v6 v7)
theorem r_156_56 {X : GX} {d : Nat} {r : Int32 × Hp} (hd : 6 ≤ d) (hq : RtX X (some (.int r.1)) r.2) {rec_9 : Nat → Int32 → Int32 → Int32 → Nat → Int32 → Hp → Option (Int32 × Hp)} (hr_9 : ∀ {v1 : Nat} {v2 : Int32} {v3 : Int32} {v4 : Int32} {v5 : Nat} {v6 : Int32} {h : Hp}, rec_9 v1 v2 v3 v4 v5 v6 h = some r → G X d 156 9 [some (.ref 31), some (.ref v1), some (.int v2), some (.int v3), some (.int v4), some (.ref v5), some (.int v6), none] [] h) {h : Hp} {v1 : Nat} {v2 : Int32} {v3 : Int32} {v4 : Int32} {v5 : Nat} {v6 : Int32} {v7 : Int32} (e : R_156_56 rec_9 v1 v2 v3 v4 v5 v6 v7 h = some r) : G X d 156 56 [some (.ref 31), some (.ref v1), some (.int v2), some (.int v3), some (.int v4), some (.ref v5), some (.int v6), some (.int v7)] [] h := by
  unfold R_156_56 at e
  obtain ⟨x, h2, e1, e2⟩ := bndI_s e
  refine k_156_56 (by omega) (t_38 e1) ?_
  rintro _ _ ⟨rfl, rfl⟩
  exact r_156_65 hd hq hr_9 e2
noncomputable def R_156_53 (rec_9 : Nat → Int32 → Int32 → Int32 → Nat → Int32 → Hp → Option (Int32 × Hp)) (v1 : Nat) (v2 : Int32) (v3 : Int32) (v4 : Int32) (v5 : Nat) (v6 : Int32) (v7 : Int32) (s0 : Int32) (h : Hp) : Option (Int32 × Hp) := if s0 = 0 then R_156_68 h else R_156_56 rec_9 v1 v2 v3 v4 v5 v6 v7 h
theorem r_156_53 {X : GX} {d : Nat} {r : Int32 × Hp} (hd : 6 ≤ d) (hq : RtX X (some (.int r.1)) r.2) {rec_9 : Nat → Int32 → Int32 → Int32 → Nat → Int32 → Hp → Option (Int32 × Hp)} (hr_9 : ∀ {v1 : Nat} {v2 : Int32} {v3 : Int32} {v4 : Int32} {v5 : Nat} {v6 : Int32} {h : Hp}, rec_9 v1 v2 v3 v4 v5 v6 h = some r → G X d 156 9 [some (.ref 31), some (.ref v1), some (.int v2), some (.int v3), some (.int v4), some (.ref v5), some (.int v6), none] [] h) {h : Hp} {v1 : Nat} {v2 : Int32} {v3 : Int32} {v4 : Int32} {v5 : Nat} {v6 : Int32} {v7 : Int32} {s0 : Int32} (e : R_156_53 rec_9 v1 v2 v3 v4 v5 v6 v7 s0 h = some r) : G X d 156 53 [some (.ref 31), some (.ref v1), some (.int v2), some (.int v3), some (.int v4), some (.ref v5), some (.int v6), some (.int v7)] [.int s0] h := by
  unfold R_156_53 at e
  refine k_156_53 (fun c => ?_) (fun c => ?_)
  · rw [if_pos c] at e; exact r_156_68 hd hq e
  · rw [if_neg c] at e; exact r_156_56 hd hq hr_9 e
noncomputable def R_156_31 (rec_9 : Nat → Int32 → Int32 → Int32 → Nat → Int32 → Hp → Option (Int32 × Hp)) (v1 : Nat) (v2 : Int32) (v3 : Int32) (v4 : Int32) (v5 : Nat) (v6 : Int32) (h : Hp) : Option (Int32 × Hp) := gd (sh v1 = (1, 2) ∧ vp_in v2 4 ∧ IA (54 + Int32.toNatClampNeg v2) (v3 + v6)) (bndI (S_145 (h (54 + Int32.toNatClampNeg v2) (Int32.toNatClampNeg (v3 + v6))) h) (R_156_53 rec_9 v1 v2 v3 v4 v5 v6 (h (54 + Int32.toNatClampNeg v2) (Int32.toNatClampNeg (v3 + v6)))))
theorem r_156_31 {X : GX} {d : Nat} {r : Int32 × Hp} (hd : 6 ≤ d) (hq : RtX X (some (.int r.1)) r.2) {rec_9 : Nat → Int32 → Int32 → Int32 → Nat → Int32 → Hp → Option (Int32 × Hp)} (hr_9 : ∀ {v1 : Nat} {v2 : Int32} {v3 : Int32} {v4 : Int32} {v5 : Nat} {v6 : Int32} {h : Hp}, rec_9 v1 v2 v3 v4 v5 v6 h = some r → G X d 156 9 [some (.ref 31), some (.ref v1), some (.int v2), some (.int v3), some (.int v4), some (.ref v5), some (.int v6), none] [] h) {h : Hp} {v1 : Nat} {v2 : Int32} {v3 : Int32} {v4 : Int32} {v5 : Nat} {v6 : Int32} (e : R_156_31 rec_9 v1 v2 v3 v4 v5 v6 h = some r) : G X d 156 31 [some (.ref 31), some (.ref v1), some (.int v2), some (.int v3), some (.int v4), some (.ref v5), some (.int v6), none] [] h := by
  unfold R_156_31 at e
  have g := gd_s e; clear e; obtain ⟨⟨o0, b1, b2⟩, e⟩ := g
  obtain ⟨x, h2, e1, e2⟩ := bndI_s e
  refine k_156_31 o0 b1 b2 (by omega) (t_145 e1) ?_
  rintro _ _ ⟨rfl, rfl⟩
  exact r_156_53 hd hq hr_9 e2
noncomputable def R_156_28 (h : Hp) : Option (Int32 × Hp) := some (((-12)), h)
theorem r_156_28 {X : GX} {d : Nat} {r : Int32 × Hp} (hd : 6 ≤ d) (hq : RtX X (some (.int r.1)) r.2) {h : Hp} (e : R_156_28 h = some r) : G X d 156 28 [none, none, none, none, none, none, none, none] [] h := by
  unfold R_156_28 at e
  rw [← Option.some.inj e] at hq
  exact k_156_28 hq
noncomputable def R_156_25 (rec_9 : Nat → Int32 → Int32 → Int32 → Nat → Int32 → Hp → Option (Int32 × Hp)) (v1 : Nat) (v2 : Int32) (v3 : Int32) (v4 : Int32) (v5 : Nat) (v6 : Int32) (s0 : Int32) (h : Hp) : Option (Int32 × Hp) := if s0 = 0 then R_156_28 h else R_156_31 rec_9 v1 v2 v3 v4 v5 v6 h
theorem r_156_25 {X : GX} {d : Nat} {r : Int32 × Hp} (hd : 6 ≤ d) (hq : RtX X (some (.int r.1)) r.2) {rec_9 : Nat → Int32 → Int32 → Int32 → Nat → Int32 → Hp → Option (Int32 × Hp)} (hr_9 : ∀ {v1 : Nat} {v2 : Int32} {v3 : Int32} {v4 : Int32} {v5 : Nat} {v6 : Int32} {h : Hp}, rec_9 v1 v2 v3 v4 v5 v6 h = some r → G X d 156 9 [some (.ref 31), some (.ref v1), some (.int v2), some (.int v3), some (.int v4), some (.ref v5), some (.int v6), none] [] h) {h : Hp} {v1 : Nat} {v2 : Int32} {v3 : Int32} {v4 : Int32} {v5 : Nat} {v6 : Int32} {s0 : Int32} (e : R_156_25 rec_9 v1 v2 v3 v4 v5 v6 s0 h = some r) : G X d 156 25 [some (.ref 31), some (.ref v1), some (.int v2), some (.int v3), some (.int v4), some (.ref v5), some (.int v6), none] [.int s0] h := by
  unfold R_156_25 at e
  refine k_156_25 (fun c => ?_) (fun c => ?_)
  · rw [if_neg c] at e; exact r_156_31 hd hq hr_9 e
  · rw [if_pos c] at e; exact r_156_28 hd hq e
noncomputable def R_156_16 (rec_9 : Nat → Int32 → Int32 → Int32 → Nat → Int32 → Hp → Option (Int32 × Hp)) (v1 : Nat) (v2 : Int32) (v3 : Int32) (v4 : Int32) (v5 : Nat) (v6 : Int32) (h : Hp) : Option (Int32 × Hp) := gd (sh v1 = (1, 2) ∧ v1 = 50) (bndI (S_150 v2 (v3 + v6) h) (R_156_25 rec_9 v1 v2 v3 v4 v5 v6))
theorem r_156_16 {X : GX} {d : Nat} {r : Int32 × Hp} (hd : 6 ≤ d) (hq : RtX X (some (.int r.1)) r.2) {rec_9 : Nat → Int32 → Int32 → Int32 → Nat → Int32 → Hp → Option (Int32 × Hp)} (hr_9 : ∀ {v1 : Nat} {v2 : Int32} {v3 : Int32} {v4 : Int32} {v5 : Nat} {v6 : Int32} {h : Hp}, rec_9 v1 v2 v3 v4 v5 v6 h = some r → G X d 156 9 [some (.ref 31), some (.ref v1), some (.int v2), some (.int v3), some (.int v4), some (.ref v5), some (.int v6), none] [] h) {h : Hp} {v1 : Nat} {v2 : Int32} {v3 : Int32} {v4 : Int32} {v5 : Nat} {v6 : Int32} (e : R_156_16 rec_9 v1 v2 v3 v4 v5 v6 h = some r) : G X d 156 16 [some (.ref 31), some (.ref v1), some (.int v2), some (.int v3), some (.int v4), some (.ref v5), some (.int v6), none] [] h := by
  unfold R_156_16 at e
  have g := gd_s e; clear e; obtain ⟨⟨o0, q0⟩, e⟩ := g
  subst q0
  obtain ⟨x, h2, e1, e2⟩ := bndI_s e
  refine k_156_16 o0 (by omega) (t_150 e1) ?_
  rintro _ _ ⟨rfl, rfl⟩
  exact r_156_25 hd hq hr_9 e2
noncomputable def R_156_9 (rec_9 : Nat → Int32 → Int32 → Int32 → Nat → Int32 → Hp → Option (Int32 × Hp)) (v1 : Nat) (v2 : Int32) (v3 : Int32) (v4 : Int32) (v5 : Nat) (v6 : Int32) (h : Hp) : Option (Int32 × Hp) := if v4 ≤ v6 then R_156_89 v5 h else R_156_16 rec_9 v1 v2 v3 v4 v5 v6 h
theorem r_156_9 {X : GX} {d : Nat} {r : Int32 × Hp} (hd : 6 ≤ d) (hq : RtX X (some (.int r.1)) r.2) {rec_9 : Nat → Int32 → Int32 → Int32 → Nat → Int32 → Hp → Option (Int32 × Hp)} (hr_9 : ∀ {v1 : Nat} {v2 : Int32} {v3 : Int32} {v4 : Int32} {v5 : Nat} {v6 : Int32} {h : Hp}, rec_9 v1 v2 v3 v4 v5 v6 h = some r → G X d 156 9 [some (.ref 31), some (.ref v1), some (.int v2), some (.int v3), some (.int v4), some (.ref v5), some (.int v6), none] [] h) {h : Hp} {v1 : Nat} {v2 : Int32} {v3 : Int32} {v4 : Int32} {v5 : Nat} {v6 : Int32} (e : R_156_9 rec_9 v1 v2 v3 v4 v5 v6 h = some r) : G X d 156 9 [some (.ref 31), some (.ref v1), some (.int v2), some (.int v3), some (.int v4), some (.ref v5), some (.int v6), none] [] h := by
  unfold R_156_9 at e
  refine k_156_9 (fun c => ?_) (fun c => ?_)
  · rw [if_pos c] at e; exact r_156_89 hd hq e
  · rw [if_neg c] at e; exact r_156_16 hd hq hr_9 e
noncomputable def H_156_9 : Nat → Nat → Int32 → Int32 → Int32 → Nat → Int32 → Hp → Option (Int32 × Hp)
  | 0, _, _, _, _, _, _, _ => none
  | n + 1, v1, v2, v3, v4, v5, v6, h => R_156_9 (H_156_9 n) v1 v2 v3 v4 v5 v6 h
theorem h_156_9 {X : GX} {d : Nat} {r : Int32 × Hp} (hd : 6 ≤ d) (hq : RtX X (some (.int r.1)) r.2) {n : Nat} {h : Hp} {v1 : Nat} {v2 : Int32} {v3 : Int32} {v4 : Int32} {v5 : Nat} {v6 : Int32} (e : H_156_9 n v1 v2 v3 v4 v5 v6 h = some r) : G X d 156 9 [some (.ref 31), some (.ref v1), some (.int v2), some (.int v3), some (.int v4), some (.ref v5), some (.int v6), none] [] h := by
  induction n generalizing v1 v2 v3 v4 v5 v6 h with
  | zero => cases e
  | succ n ih => exact r_156_9 hd hq (fun e => ih e) e
noncomputable def R_156_4 (v1 : Nat) (v2 : Int32) (v3 : Int32) (v4 : Int32) (s0 : Nat) (h : Hp) : Option (Int32 × Hp) := H_156_9 fuL v1 v2 v3 v4 s0 0 h
theorem r_156_4 {X : GX} {d : Nat} {r : Int32 × Hp} (hd : 6 ≤ d) (hq : RtX X (some (.int r.1)) r.2) {h : Hp} {v1 : Nat} {v2 : Int32} {v3 : Int32} {v4 : Int32} {s0 : Nat} (e : R_156_4 v1 v2 v3 v4 s0 h = some r) : G X d 156 4 [some (.ref 31), some (.ref v1), some (.int v2), some (.int v3), some (.int v4), none, none, none] [.ref s0] h := by
  unfold R_156_4 at e
  exact k_156_4 (h_156_9 hd hq e)
noncomputable def R_156_0 (v1 : Nat) (v2 : Int32) (v3 : Int32) (v4 : Int32) (h : Hp) : Option (Int32 × Hp) := bndR (S_87 h) (R_156_4 v1 v2 v3 v4)
theorem r_156_0 {X : GX} {d : Nat} {r : Int32 × Hp} (hd : 6 ≤ d) (hq : RtX X (some (.int r.1)) r.2) {h : Hp} {v1 : Nat} {v2 : Int32} {v3 : Int32} {v4 : Int32} (e : R_156_0 v1 v2 v3 v4 h = some r) : G X d 156 0 [some (.ref 31), some (.ref v1), some (.int v2), some (.int v3), some (.int v4), none, none, none] [] h := by
  unfold R_156_0 at e
  obtain ⟨x, h2, e1, e2⟩ := bndR_s e
  refine k_156_0 (by omega) (t_87 e1) ?_
  rintro _ _ ⟨rfl, rfl⟩
  exact r_156_4 hd hq e2
noncomputable def S_156 (v1 : Nat) (v2 : Int32) (v3 : Int32) (v4 : Int32) (h : Hp) : Option (Int32 × Hp) := R_156_0 v1 v2 v3 v4 h
set_option maxRecDepth 100000 in
theorem t_156 {v1 : Nat} {v2 : Int32} {v3 : Int32} {v4 : Int32} {h : Hp} {r : Int32 × Hp} (e : S_156 v1 v2 v3 v4 h = some r) : CI 6 156 [.ref 31, .ref v1, .int v2, .int v3, .int v4] h (fun x g => x = r.1 ∧ g = r.2) := by
  refine C.of mo_156 (Nat.le_of_ble_eq_true rfl) (fun X hq => ?_)
  exact r_156_0 (Nat.le_refl _) (hq _ _ ⟨_, rfl, rfl, rfl⟩) e
/-! 155 PlayedTruth.wouldBe(III)I -/
noncomputable def R_155_17 (h : Hp) : Option (Int32 × Hp) := some (((-1)), h)
theorem r_155_17 {X : GX} {d : Nat} {r : Int32 × Hp} (hd : 7 ≤ d) (hq : RtX X (some (.int r.1)) r.2) {h : Hp} (e : R_155_17 h = some r) : G X d 155 17 [none, none, none, none, none] [] h := by
  unfold R_155_17 at e
  rw [← Option.some.inj e] at hq
  exact k_155_17 hq
noncomputable def R_155_54 (s0 : Int32) (h : Hp) : Option (Int32 × Hp) := some (s0, h)
theorem r_155_54 {X : GX} {d : Nat} {r : Int32 × Hp} (hd : 7 ≤ d) (hq : RtX X (some (.int r.1)) r.2) {h : Hp} {s0 : Int32} (e : R_155_54 s0 h = some r) : G X d 155 54 [none, none, none, none, none] [.int s0] h := by
  unfold R_155_54 at e
  rw [← Option.some.inj e] at hq
  exact k_155_54 hq
noncomputable def R_155_40 (v1 : Int32) (v2 : Int32) (v3 : Int32) (h : Hp) : Option (Int32 × Hp) := bndI (S_156 50 v1 v2 v3 h) (R_155_54)
theorem r_155_40 {X : GX} {d : Nat} {r : Int32 × Hp} (hd : 7 ≤ d) (hq : RtX X (some (.int r.1)) r.2) {h : Hp} {v1 : Int32} {v2 : Int32} {v3 : Int32} (e : R_155_40 v1 v2 v3 h = some r) : G X d 155 40 [some (.ref 0), some (.int v1), some (.int v2), some (.int v3), none] [] h := by
  unfold R_155_40 at e
  obtain ⟨x, h2, e1, e2⟩ := bndI_s e
  refine k_155_40 (by omega) (t_156 e1) ?_
  rintro _ _ ⟨rfl, rfl⟩
  exact r_155_54 hd hq e2
noncomputable def R_155_35 (v4 : Int32) (h : Hp) : Option (Int32 × Hp) := some (v4, h)
theorem r_155_35 {X : GX} {d : Nat} {r : Int32 × Hp} (hd : 7 ≤ d) (hq : RtX X (some (.int r.1)) r.2) {h : Hp} {v4 : Int32} (e : R_155_35 v4 h = some r) : G X d 155 35 [none, none, none, none, some (.int v4)] [] h := by
  unfold R_155_35 at e
  rw [← Option.some.inj e] at hq
  exact k_155_35 hq
noncomputable def R_155_28 (v1 : Int32) (v2 : Int32) (v3 : Int32) (s0 : Int32) (h : Hp) : Option (Int32 × Hp) := if s0 = 0 then R_155_40 v1 v2 v3 h else R_155_35 s0 h
theorem r_155_28 {X : GX} {d : Nat} {r : Int32 × Hp} (hd : 7 ≤ d) (hq : RtX X (some (.int r.1)) r.2) {h : Hp} {v1 : Int32} {v2 : Int32} {v3 : Int32} {s0 : Int32} (e : R_155_28 v1 v2 v3 s0 h = some r) : G X d 155 28 [some (.ref 0), some (.int v1), some (.int v2), some (.int v3), none] [.int s0] h := by
  unfold R_155_28 at e
  refine k_155_28 (fun c => ?_) (fun c => ?_)
  · rw [if_pos c] at e; exact r_155_40 hd hq e
  · rw [if_neg c] at e; exact r_155_35 hd hq e
noncomputable def R_155_19 (v1 : Int32) (v2 : Int32) (v3 : Int32) (h : Hp) : Option (Int32 × Hp) := bndI (S_153 v1 0 h) (R_155_28 v1 v2 v3)
theorem r_155_19 {X : GX} {d : Nat} {r : Int32 × Hp} (hd : 7 ≤ d) (hq : RtX X (some (.int r.1)) r.2) {h : Hp} {v1 : Int32} {v2 : Int32} {v3 : Int32} (e : R_155_19 v1 v2 v3 h = some r) : G X d 155 19 [some (.ref 0), some (.int v1), some (.int v2), some (.int v3), none] [] h := by
  unfold R_155_19 at e
  obtain ⟨x, h2, e1, e2⟩ := bndI_s e
  refine k_155_19 (by omega) (t_153 e1) ?_
  rintro _ _ ⟨rfl, rfl⟩
  exact r_155_28 hd hq e2
noncomputable def R_155_14 (v1 : Int32) (v2 : Int32) (v3 : Int32) (s0 : Int32) (h : Hp) : Option (Int32 × Hp) := if s0 = 0 then R_155_17 h else R_155_19 v1 v2 v3 h
theorem r_155_14 {X : GX} {d : Nat} {r : Int32 × Hp} (hd : 7 ≤ d) (hq : RtX X (some (.int r.1)) r.2) {h : Hp} {v1 : Int32} {v2 : Int32} {v3 : Int32} {s0 : Int32} (e : R_155_14 v1 v2 v3 s0 h = some r) : G X d 155 14 [some (.ref 0), some (.int v1), some (.int v2), some (.int v3), none] [.int s0] h := by
  unfold R_155_14 at e
  refine k_155_14 (fun c => ?_) (fun c => ?_)
  · rw [if_neg c] at e; exact r_155_19 hd hq e
  · rw [if_pos c] at e; exact r_155_17 hd hq e
noncomputable def R_155_7 (v1 : Int32) (v2 : Int32) (v3 : Int32) (h : Hp) : Option (Int32 × Hp) := bndI (S_11 v3 0 20 h) (R_155_14 v1 v2 v3)
theorem r_155_7 {X : GX} {d : Nat} {r : Int32 × Hp} (hd : 7 ≤ d) (hq : RtX X (some (.int r.1)) r.2) {h : Hp} {v1 : Int32} {v2 : Int32} {v3 : Int32} (e : R_155_7 v1 v2 v3 h = some r) : G X d 155 7 [some (.ref 0), some (.int v1), some (.int v2), some (.int v3), none] [] h := by
  unfold R_155_7 at e
  obtain ⟨x, h2, e1, e2⟩ := bndI_s e
  refine k_155_7 (by omega) (t_11 e1) ?_
  rintro _ _ ⟨rfl, rfl⟩
  exact r_155_14 hd hq e2
noncomputable def R_155_4 (v1 : Int32) (v2 : Int32) (v3 : Int32) (s0 : Int32) (h : Hp) : Option (Int32 × Hp) := if s0 = 0 then R_155_17 h else R_155_7 v1 v2 v3 h
theorem r_155_4 {X : GX} {d : Nat} {r : Int32 × Hp} (hd : 7 ≤ d) (hq : RtX X (some (.int r.1)) r.2) {h : Hp} {v1 : Int32} {v2 : Int32} {v3 : Int32} {s0 : Int32} (e : R_155_4 v1 v2 v3 s0 h = some r) : G X d 155 4 [some (.ref 0), some (.int v1), some (.int v2), some (.int v3), none] [.int s0] h := by
  unfold R_155_4 at e
  refine k_155_4 (fun c => ?_) (fun c => ?_)
  · rw [if_pos c] at e; exact r_155_17 hd hq e
  · rw [if_neg c] at e; exact r_155_7 hd hq e
noncomputable def R_155_0 (v1 : Int32) (v2 : Int32) (v3 : Int32) (h : Hp) : Option (Int32 × Hp) := bndI (S_147 v1 h) (R_155_4 v1 v2 v3)
theorem r_155_0 {X : GX} {d : Nat} {r : Int32 × Hp} (hd : 7 ≤ d) (hq : RtX X (some (.int r.1)) r.2) {h : Hp} {v1 : Int32} {v2 : Int32} {v3 : Int32} (e : R_155_0 v1 v2 v3 h = some r) : G X d 155 0 [some (.ref 0), some (.int v1), some (.int v2), some (.int v3), none] [] h := by
  unfold R_155_0 at e
  obtain ⟨x, h2, e1, e2⟩ := bndI_s e
  refine k_155_0 (by omega) (t_147 e1) ?_
  rintro _ _ ⟨rfl, rfl⟩
  exact r_155_4 hd hq e2
noncomputable def S_155 (v1 : Int32) (v2 : Int32) (v3 : Int32) (h : Hp) : Option (Int32 × Hp) := R_155_0 v1 v2 v3 h
set_option maxRecDepth 100000 in
theorem t_155 {v1 : Int32} {v2 : Int32} {v3 : Int32} {h : Hp} {r : Int32 × Hp} (e : S_155 v1 v2 v3 h = some r) : CI 7 155 [.ref 0, .int v1, .int v2, .int v3] h (fun x g => x = r.1 ∧ g = r.2) := by
  refine C.of mo_155 (Nat.le_of_ble_eq_true rfl) (fun X hq => ?_)
  exact r_155_0 (Nat.le_refl _) (hq _ _ ⟨_, rfl, rfl, rfl⟩) e
/-! 158 PlayedTruth$Host.isShelf(I)Z -/
noncomputable def R_158_13 (h : Hp) : Option (Int32 × Hp) := some (0, h)
theorem r_158_13 {X : GX} {d : Nat} {r : Int32 × Hp} (hd : 1 ≤ d) (hq : RtX X (some (.int r.1)) r.2) {h : Hp} (e : R_158_13 h = some r) : G X d 158 13 [none] [] h := by
  unfold R_158_13 at e
  rw [← Option.some.inj e] at hq
  exact k_158_13 hq
noncomputable def R_158_9 (h : Hp) : Option (Int32 × Hp) := some (1, h)
theorem r_158_9 {X : GX} {d : Nat} {r : Int32 × Hp} (hd : 1 ≤ d) (hq : RtX X (some (.int r.1)) r.2) {h : Hp} (e : R_158_9 h = some r) : G X d 158 9 [none] [] h := by
  unfold R_158_9 at e
  rw [← Option.some.inj e] at hq
  exact k_158_9 hq
noncomputable def R_158_4 (v0 : Int32) (h : Hp) : Option (Int32 × Hp) := if 4 ≤ v0 then R_158_13 h else R_158_9 h
theorem r_158_4 {X : GX} {d : Nat} {r : Int32 × Hp} (hd : 1 ≤ d) (hq : RtX X (some (.int r.1)) r.2) {h : Hp} {v0 : Int32} (e : R_158_4 v0 h = some r) : G X d 158 4 [some (.int v0)] [] h := by
  unfold R_158_4 at e
  refine k_158_4 (fun c => ?_) (fun c => ?_)
  · rw [if_pos c] at e; exact r_158_13 hd hq e
  · rw [if_neg c] at e; exact r_158_9 hd hq e
noncomputable def R_158_0 (v0 : Int32) (h : Hp) : Option (Int32 × Hp) := if v0 < 0 then R_158_13 h else R_158_4 v0 h
theorem r_158_0 {X : GX} {d : Nat} {r : Int32 × Hp} (hd : 1 ≤ d) (hq : RtX X (some (.int r.1)) r.2) {h : Hp} {v0 : Int32} (e : R_158_0 v0 h = some r) : G X d 158 0 [some (.int v0)] [] h := by
  unfold R_158_0 at e
  refine k_158_0 (fun c => ?_) (fun c => ?_)
  · rw [if_pos c] at e; exact r_158_13 hd hq e
  · rw [if_neg c] at e; exact r_158_4 hd hq e
noncomputable def S_158 (v0 : Int32) (h : Hp) : Option (Int32 × Hp) := R_158_0 v0 h
set_option maxRecDepth 100000 in
theorem t_158 {v0 : Int32} {h : Hp} {r : Int32 × Hp} (e : S_158 v0 h = some r) : CI 1 158 [.int v0] h (fun x g => x = r.1 ∧ g = r.2) := by
  refine C.of mo_158 (Nat.le_of_ble_eq_true rfl) (fun X hq => ?_)
  exact r_158_0 (Nat.le_refl _) (hq _ _ ⟨_, rfl, rfl, rfl⟩) e
/-! 159 PlayedTruth$Host.hold(IIII)I -/
noncomputable def R_159_0 (v1 : Int32) (v2 : Int32) (v3 : Int32) (v4 : Int32) (h : Hp) : Option (Int32 × Hp) := gd (IA 58 v1 ∧ IA 59 v1 ∧ IA 60 v1) (some (1, (wr (wr (wr h 58 (Int32.toNatClampNeg v1) v2) 59 (Int32.toNatClampNeg v1) v3) 60 (Int32.toNatClampNeg v1) v4)))
theorem r_159_0 {X : GX} {d : Nat} {r : Int32 × Hp} (hd : 1 ≤ d) (hq : RtX X (some (.int r.1)) r.2) {h : Hp} {v1 : Int32} {v2 : Int32} {v3 : Int32} {v4 : Int32} (e : R_159_0 v1 v2 v3 v4 h = some r) : G X d 159 0 [some (.ref 50), some (.int v1), some (.int v2), some (.int v3), some (.int v4)] [] h := by
  unfold R_159_0 at e
  have g := gd_s e; clear e; obtain ⟨⟨b0, b1, b2⟩, e⟩ := g
  rw [← Option.some.inj e] at hq
  exact k_159_0 b0 b1 b2 hq
noncomputable def S_159 (v1 : Int32) (v2 : Int32) (v3 : Int32) (v4 : Int32) (h : Hp) : Option (Int32 × Hp) := R_159_0 v1 v2 v3 v4 h
set_option maxRecDepth 100000 in
theorem t_159 {v1 : Int32} {v2 : Int32} {v3 : Int32} {v4 : Int32} {h : Hp} {r : Int32 × Hp} (e : S_159 v1 v2 v3 v4 h = some r) : CI 1 159 [.ref 50, .int v1, .int v2, .int v3, .int v4] h (fun x g => x = r.1 ∧ g = r.2) := by
  refine C.of mo_159 (Nat.le_of_ble_eq_true rfl) (fun X hq => ?_)
  exact r_159_0 (Nat.le_refl _) (hq _ _ ⟨_, rfl, rfl, rfl⟩) e
/-! 160 PlayedTruth$Host.holdRow(II)I -/
noncomputable def R_160_34 (s0 : Int32) (h : Hp) : Option (Int32 × Hp) := some (s0, h)
theorem r_160_34 {X : GX} {d : Nat} {r : Int32 × Hp} (hd : 2 ≤ d) (hq : RtX X (some (.int r.1)) r.2) {h : Hp} {s0 : Int32} (e : R_160_34 s0 h = some r) : G X d 160 34 [none, none, none, none] [.int s0] h := by
  unfold R_160_34 at e
  rw [← Option.some.inj e] at hq
  exact k_160_34 hq
noncomputable def R_160_14 (v1 : Int32) (v2 : Int32) (h : Hp) : Option (Int32 × Hp) := gd (IA 51 v2 ∧ IA 52 v2) (bndI (S_159 v1 2 (h 51 (Int32.toNatClampNeg v2)) (h 52 (Int32.toNatClampNeg v2)) h) (R_160_34))
theorem r_160_14 {X : GX} {d : Nat} {r : Int32 × Hp} (hd : 2 ≤ d) (hq : RtX X (some (.int r.1)) r.2) {h : Hp} {v1 : Int32} {v2 : Int32} (e : R_160_14 v1 v2 h = some r) : G X d 160 14 [some (.ref 50), some (.int v1), some (.int v2), none] [] h := by
  unfold R_160_14 at e
  have g := gd_s e; clear e; obtain ⟨⟨b0, b1⟩, e⟩ := g
  obtain ⟨x, h2, e1, e2⟩ := bndI_s e
  refine k_160_14 b0 b1 (by omega) (t_159 e1) ?_
  rintro _ _ ⟨rfl, rfl⟩
  exact r_160_34 hd hq e2
noncomputable def R_160_10 (v1 : Int32) (v2 : Int32) (h : Hp) : Option (Int32 × Hp) := gd (IA 51 v2 ∧ IA 52 v2) (bndI (S_159 v1 0 (h 51 (Int32.toNatClampNeg v2)) (h 52 (Int32.toNatClampNeg v2)) h) (R_160_34))
theorem r_160_10 {X : GX} {d : Nat} {r : Int32 × Hp} (hd : 2 ≤ d) (hq : RtX X (some (.int r.1)) r.2) {h : Hp} {v1 : Int32} {v2 : Int32} (e : R_160_10 v1 v2 h = some r) : G X d 160 10 [some (.ref 50), some (.int v1), some (.int v2), none] [] h := by
  unfold R_160_10 at e
  have g := gd_s e; clear e; obtain ⟨⟨b0, b1⟩, e⟩ := g
  obtain ⟨x, h2, e1, e2⟩ := bndI_s e
  refine k_160_10 b0 b1 (by omega) (t_159 e1) ?_
  rintro _ _ ⟨rfl, rfl⟩
  exact r_160_34 hd hq e2
noncomputable def R_160_0 (v1 : Int32) (v2 : Int32) (h : Hp) : Option (Int32 × Hp) := gd (IA 51 v2) (if (h 51 (Int32.toNatClampNeg v2)) = ((-1)) then R_160_10 v1 v2 h else R_160_14 v1 v2 h)
theorem r_160_0 {X : GX} {d : Nat} {r : Int32 × Hp} (hd : 2 ≤ d) (hq : RtX X (some (.int r.1)) r.2) {h : Hp} {v1 : Int32} {v2 : Int32} (e : R_160_0 v1 v2 h = some r) : G X d 160 0 [some (.ref 50), some (.int v1), some (.int v2), none] [] h := by
  unfold R_160_0 at e
  have g := gd_s e; clear e; obtain ⟨b0, e⟩ := g
  refine k_160_0 b0 (fun c => ?_) (fun c => ?_)
  · rw [if_neg c] at e; exact r_160_14 hd hq e
  · rw [if_pos c] at e; exact r_160_10 hd hq e
noncomputable def S_160 (v1 : Int32) (v2 : Int32) (h : Hp) : Option (Int32 × Hp) := R_160_0 v1 v2 h
set_option maxRecDepth 100000 in
theorem t_160 {v1 : Int32} {v2 : Int32} {h : Hp} {r : Int32 × Hp} (e : S_160 v1 v2 h = some r) : CI 2 160 [.ref 50, .int v1, .int v2] h (fun x g => x = r.1 ∧ g = r.2) := by
  refine C.of mo_160 (Nat.le_of_ble_eq_true rfl) (fun X hq => ?_)
  exact r_160_0 (Nat.le_refl _) (hq _ _ ⟨_, rfl, rfl, rfl⟩) e
/-! 157 PlayedTruth.shelf(III)I -/
noncomputable def R_157_58 (h : Hp) : Option (Int32 × Hp) := some (((-1)), h)
theorem r_157_58 {X : GX} {d : Nat} {r : Int32 × Hp} (hd : 3 ≤ d) (hq : RtX X (some (.int r.1)) r.2) {h : Hp} (e : R_157_58 h = some r) : G X d 157 58 [none, none, none, none] [] h := by
  unfold R_157_58 at e
  rw [← Option.some.inj e] at hq
  exact k_157_58 hq
noncomputable def R_157_55 (s0 : Int32) (h : Hp) : Option (Int32 × Hp) := some (s0, h)
theorem r_157_55 {X : GX} {d : Nat} {r : Int32 × Hp} (hd : 3 ≤ d) (hq : RtX X (some (.int r.1)) r.2) {h : Hp} {s0 : Int32} (e : R_157_55 s0 h = some r) : G X d 157 55 [none, none, none, none] [.int s0] h := by
  unfold R_157_55 at e
  rw [← Option.some.inj e] at hq
  exact k_157_55 hq
noncomputable def R_157_44 (v1 : Int32) (v3 : Int32) (h : Hp) : Option (Int32 × Hp) := bndI (S_159 v1 1 v3 0 h) (R_157_55)
theorem r_157_44 {X : GX} {d : Nat} {r : Int32 × Hp} (hd : 3 ≤ d) (hq : RtX X (some (.int r.1)) r.2) {h : Hp} {v1 : Int32} {v3 : Int32} (e : R_157_44 v1 v3 h = some r) : G X d 157 44 [some (.ref 0), some (.int v1), none, some (.int v3)] [] h := by
  unfold R_157_44 at e
  obtain ⟨x, h2, e1, e2⟩ := bndI_s e
  refine k_157_44 (by omega) (t_159 e1) ?_
  rintro _ _ ⟨rfl, rfl⟩
  exact r_157_55 hd hq e2
noncomputable def R_157_41 (v1 : Int32) (v3 : Int32) (s0 : Int32) (h : Hp) : Option (Int32 × Hp) := if s0 = 0 then R_157_58 h else R_157_44 v1 v3 h
theorem r_157_41 {X : GX} {d : Nat} {r : Int32 × Hp} (hd : 3 ≤ d) (hq : RtX X (some (.int r.1)) r.2) {h : Hp} {v1 : Int32} {v3 : Int32} {s0 : Int32} (e : R_157_41 v1 v3 s0 h = some r) : G X d 157 41 [some (.ref 0), some (.int v1), none, some (.int v3)] [.int s0] h := by
  unfold R_157_41 at e
  refine k_157_41 (fun c => ?_) (fun c => ?_)
  · rw [if_pos c] at e; exact r_157_58 hd hq e
  · rw [if_neg c] at e; exact r_157_44 hd hq e
noncomputable def R_157_36 (v1 : Int32) (v3 : Int32) (h : Hp) : Option (Int32 × Hp) := bndI (S_14 v3 h) (R_157_41 v1 v3)
theorem r_157_36 {X : GX} {d : Nat} {r : Int32 × Hp} (hd : 3 ≤ d) (hq : RtX X (some (.int r.1)) r.2) {h : Hp} {v1 : Int32} {v3 : Int32} (e : R_157_36 v1 v3 h = some r) : G X d 157 36 [some (.ref 0), some (.int v1), none, some (.int v3)] [] h := by
  unfold R_157_36 at e
  obtain ⟨x, h2, e1, e2⟩ := bndI_s e
  refine k_157_36 (by omega) (t_14 e1) ?_
  rintro _ _ ⟨rfl, rfl⟩
  exact r_157_41 hd hq e2
noncomputable def R_157_79 (h : Hp) : Option (Int32 × Hp) := some (((-1)), h)
theorem r_157_79 {X : GX} {d : Nat} {r : Int32 × Hp} (hd : 3 ≤ d) (hq : RtX X (some (.int r.1)) r.2) {h : Hp} (e : R_157_79 h = some r) : G X d 157 79 [none, none, none, none] [] h := by
  unfold R_157_79 at e
  rw [← Option.some.inj e] at hq
  exact k_157_79 hq
noncomputable def R_157_76 (s0 : Int32) (h : Hp) : Option (Int32 × Hp) := some (s0, h)
theorem r_157_76 {X : GX} {d : Nat} {r : Int32 × Hp} (hd : 3 ≤ d) (hq : RtX X (some (.int r.1)) r.2) {h : Hp} {s0 : Int32} (e : R_157_76 s0 h = some r) : G X d 157 76 [none, none, none, none] [.int s0] h := by
  unfold R_157_76 at e
  rw [← Option.some.inj e] at hq
  exact k_157_76 hq
noncomputable def R_157_67 (v1 : Int32) (v3 : Int32) (h : Hp) : Option (Int32 × Hp) := bndI (S_160 v1 v3 h) (R_157_76)
theorem r_157_67 {X : GX} {d : Nat} {r : Int32 × Hp} (hd : 3 ≤ d) (hq : RtX X (some (.int r.1)) r.2) {h : Hp} {v1 : Int32} {v3 : Int32} (e : R_157_67 v1 v3 h = some r) : G X d 157 67 [some (.ref 0), some (.int v1), none, some (.int v3)] [] h := by
  unfold R_157_67 at e
  obtain ⟨x, h2, e1, e2⟩ := bndI_s e
  refine k_157_67 (by omega) (t_160 e1) ?_
  rintro _ _ ⟨rfl, rfl⟩
  exact r_157_76 hd hq e2
noncomputable def R_157_64 (v1 : Int32) (v3 : Int32) (s0 : Int32) (h : Hp) : Option (Int32 × Hp) := if s0 = 0 then R_157_79 h else R_157_67 v1 v3 h
theorem r_157_64 {X : GX} {d : Nat} {r : Int32 × Hp} (hd : 3 ≤ d) (hq : RtX X (some (.int r.1)) r.2) {h : Hp} {v1 : Int32} {v3 : Int32} {s0 : Int32} (e : R_157_64 v1 v3 s0 h = some r) : G X d 157 64 [some (.ref 0), some (.int v1), none, some (.int v3)] [.int s0] h := by
  unfold R_157_64 at e
  refine k_157_64 (fun c => ?_) (fun c => ?_)
  · rw [if_pos c] at e; exact r_157_79 hd hq e
  · rw [if_neg c] at e; exact r_157_67 hd hq e
noncomputable def R_157_60 (v1 : Int32) (v3 : Int32) (h : Hp) : Option (Int32 × Hp) := bndI (S_147 v3 h) (R_157_64 v1 v3)
theorem r_157_60 {X : GX} {d : Nat} {r : Int32 × Hp} (hd : 3 ≤ d) (hq : RtX X (some (.int r.1)) r.2) {h : Hp} {v1 : Int32} {v3 : Int32} (e : R_157_60 v1 v3 h = some r) : G X d 157 60 [some (.ref 0), some (.int v1), none, some (.int v3)] [] h := by
  unfold R_157_60 at e
  obtain ⟨x, h2, e1, e2⟩ := bndI_s e
  refine k_157_60 (by omega) (t_147 e1) ?_
  rintro _ _ ⟨rfl, rfl⟩
  exact r_157_64 hd hq e2
noncomputable def R_157_92 (s0 : Int32) (h : Hp) : Option (Int32 × Hp) := some (s0, h)
theorem r_157_92 {X : GX} {d : Nat} {r : Int32 × Hp} (hd : 3 ≤ d) (hq : RtX X (some (.int r.1)) r.2) {h : Hp} {s0 : Int32} (e : R_157_92 s0 h = some r) : G X d 157 92 [none, none, none, none] [.int s0] h := by
  unfold R_157_92 at e
  rw [← Option.some.inj e] at hq
  exact k_157_92 hq
noncomputable def R_157_81 (v1 : Int32) (h : Hp) : Option (Int32 × Hp) := bndI (S_159 v1 0 0 0 h) (R_157_92)
theorem r_157_81 {X : GX} {d : Nat} {r : Int32 × Hp} (hd : 3 ≤ d) (hq : RtX X (some (.int r.1)) r.2) {h : Hp} {v1 : Int32} (e : R_157_81 v1 h = some r) : G X d 157 81 [some (.ref 0), some (.int v1), none, none] [] h := by
  unfold R_157_81 at e
  obtain ⟨x, h2, e1, e2⟩ := bndI_s e
  refine k_157_81 (by omega) (t_159 e1) ?_
  rintro _ _ ⟨rfl, rfl⟩
  exact r_157_92 hd hq e2
noncomputable def R_157_93 (h : Hp) : Option (Int32 × Hp) := some (((-1)), h)
theorem r_157_93 {X : GX} {d : Nat} {r : Int32 × Hp} (hd : 3 ≤ d) (hq : RtX X (some (.int r.1)) r.2) {h : Hp} (e : R_157_93 h = some r) : G X d 157 93 [none, none, none, none] [] h := by
  unfold R_157_93 at e
  rw [← Option.some.inj e] at hq
  exact k_157_93 hq
noncomputable def R_157_9 (v1 : Int32) (v2 : Int32) (v3 : Int32) (h : Hp) : Option (Int32 × Hp) := if v2 = 0 then R_157_36 v1 v3 h else (if v2 = 1 then R_157_60 v1 v3 h else (if v2 = 2 then R_157_81 v1 h else (R_157_93 h)))
theorem r_157_9 {X : GX} {d : Nat} {r : Int32 × Hp} (hd : 3 ≤ d) (hq : RtX X (some (.int r.1)) r.2) {h : Hp} {v1 : Int32} {v2 : Int32} {v3 : Int32} (e : R_157_9 v1 v2 v3 h = some r) : G X d 157 9 [some (.ref 0), some (.int v1), some (.int v2), some (.int v3)] [] h := by
  unfold R_157_9 at e
  refine k_157_9 (fun c => ?_) (fun c => ?_) (fun c => ?_) (fun c0 c1 c2 => ?_)
  · rw [if_pos c] at e; exact r_157_36 hd hq e
  · rw [if_neg (show ¬ v2 = 0 by rw [c]; decide), if_pos c] at e; exact r_157_60 hd hq e
  · rw [if_neg (show ¬ v2 = 0 by rw [c]; decide), if_neg (show ¬ v2 = 1 by rw [c]; decide), if_pos c] at e; exact r_157_81 hd hq e
  · rw [if_neg c0, if_neg c1, if_neg c2] at e; exact r_157_93 hd hq e
noncomputable def R_157_7 (h : Hp) : Option (Int32 × Hp) := some (((-1)), h)
theorem r_157_7 {X : GX} {d : Nat} {r : Int32 × Hp} (hd : 3 ≤ d) (hq : RtX X (some (.int r.1)) r.2) {h : Hp} (e : R_157_7 h = some r) : G X d 157 7 [none, none, none, none] [] h := by
  unfold R_157_7 at e
  rw [← Option.some.inj e] at hq
  exact k_157_7 hq
noncomputable def R_157_4 (v1 : Int32) (v2 : Int32) (v3 : Int32) (s0 : Int32) (h : Hp) : Option (Int32 × Hp) := if s0 = 0 then R_157_7 h else R_157_9 v1 v2 v3 h
theorem r_157_4 {X : GX} {d : Nat} {r : Int32 × Hp} (hd : 3 ≤ d) (hq : RtX X (some (.int r.1)) r.2) {h : Hp} {v1 : Int32} {v2 : Int32} {v3 : Int32} {s0 : Int32} (e : R_157_4 v1 v2 v3 s0 h = some r) : G X d 157 4 [some (.ref 0), some (.int v1), some (.int v2), some (.int v3)] [.int s0] h := by
  unfold R_157_4 at e
  refine k_157_4 (fun c => ?_) (fun c => ?_)
  · rw [if_neg c] at e; exact r_157_9 hd hq e
  · rw [if_pos c] at e; exact r_157_7 hd hq e
noncomputable def R_157_0 (v1 : Int32) (v2 : Int32) (v3 : Int32) (h : Hp) : Option (Int32 × Hp) := bndI (S_158 v1 h) (R_157_4 v1 v2 v3)
theorem r_157_0 {X : GX} {d : Nat} {r : Int32 × Hp} (hd : 3 ≤ d) (hq : RtX X (some (.int r.1)) r.2) {h : Hp} {v1 : Int32} {v2 : Int32} {v3 : Int32} (e : R_157_0 v1 v2 v3 h = some r) : G X d 157 0 [some (.ref 0), some (.int v1), some (.int v2), some (.int v3)] [] h := by
  unfold R_157_0 at e
  obtain ⟨x, h2, e1, e2⟩ := bndI_s e
  refine k_157_0 (by omega) (t_158 e1) ?_
  rintro _ _ ⟨rfl, rfl⟩
  exact r_157_4 hd hq e2
noncomputable def S_157 (v1 : Int32) (v2 : Int32) (v3 : Int32) (h : Hp) : Option (Int32 × Hp) := R_157_0 v1 v2 v3 h
set_option maxRecDepth 100000 in
theorem t_157 {v1 : Int32} {v2 : Int32} {v3 : Int32} {h : Hp} {r : Int32 × Hp} (e : S_157 v1 v2 v3 h = some r) : CI 3 157 [.ref 0, .int v1, .int v2, .int v3] h (fun x g => x = r.1 ∧ g = r.2) := by
  refine C.of mo_157 (Nat.le_of_ble_eq_true rfl) (fun X hq => ?_)
  exact r_157_0 (Nat.le_refl _) (hq _ _ ⟨_, rfl, rfl, rfl⟩) e
/-! 162 PlayedTruth.isNothing(I)Z -/
noncomputable def R_162_35 (h : Hp) : Option (Int32 × Hp) := some (1, h)
theorem r_162_35 {X : GX} {d : Nat} {r : Int32 × Hp} (hd : 3 ≤ d) (hq : RtX X (some (.int r.1)) r.2) {h : Hp} (e : R_162_35 h = some r) : G X d 162 35 [none, none, none] [] h := by
  unfold R_162_35 at e
  rw [← Option.some.inj e] at hq
  exact k_162_35 hq
noncomputable def R_162_39 (h : Hp) : Option (Int32 × Hp) := some (0, h)
theorem r_162_39 {X : GX} {d : Nat} {r : Int32 × Hp} (hd : 3 ≤ d) (hq : RtX X (some (.int r.1)) r.2) {h : Hp} (e : R_162_39 h = some r) : G X d 162 39 [none, none, none] [] h := by
  unfold R_162_39 at e
  rw [← Option.some.inj e] at hq
  exact k_162_39 hq
noncomputable def R_162_32 (s0 : Int32) (h : Hp) : Option (Int32 × Hp) := if s0 = 0 then R_162_35 h else R_162_39 h
theorem r_162_32 {X : GX} {d : Nat} {r : Int32 × Hp} (hd : 3 ≤ d) (hq : RtX X (some (.int r.1)) r.2) {h : Hp} {s0 : Int32} (e : R_162_32 s0 h = some r) : G X d 162 32 [none, none, none] [.int s0] h := by
  unfold R_162_32 at e
  refine k_162_32 (fun c => ?_) (fun c => ?_)
  · rw [if_neg c] at e; exact r_162_39 hd hq e
  · rw [if_pos c] at e; exact r_162_35 hd hq e
noncomputable def R_162_19 (v1 : Int32) (h : Hp) : Option (Int32 × Hp) := gd (IA 59 v1) (bndI (S_14 (h 59 (Int32.toNatClampNeg v1)) h) (R_162_32))
theorem r_162_19 {X : GX} {d : Nat} {r : Int32 × Hp} (hd : 3 ≤ d) (hq : RtX X (some (.int r.1)) r.2) {h : Hp} {v1 : Int32} (e : R_162_19 v1 h = some r) : G X d 162 19 [some (.ref 0), some (.int v1), none] [] h := by
  unfold R_162_19 at e
  have g := gd_s e; clear e; obtain ⟨b0, e⟩ := g
  obtain ⟨x, h2, e1, e2⟩ := bndI_s e
  refine k_162_19 b0 (by omega) (t_14 e1) ?_
  rintro _ _ ⟨rfl, rfl⟩
  exact r_162_32 hd hq e2
noncomputable def R_162_14 (v1 : Int32) (v2 : Int32) (h : Hp) : Option (Int32 × Hp) := if v2 = 1 then R_162_19 v1 h else R_162_39 h
theorem r_162_14 {X : GX} {d : Nat} {r : Int32 × Hp} (hd : 3 ≤ d) (hq : RtX X (some (.int r.1)) r.2) {h : Hp} {v1 : Int32} {v2 : Int32} (e : R_162_14 v1 v2 h = some r) : G X d 162 14 [some (.ref 0), some (.int v1), some (.int v2)] [] h := by
  unfold R_162_14 at e
  refine k_162_14 (fun c => ?_) (fun c => ?_)
  · rw [if_neg c] at e; exact r_162_39 hd hq e
  · rw [if_pos c] at e; exact r_162_19 hd hq e
noncomputable def R_162_0 (v1 : Int32) (h : Hp) : Option (Int32 × Hp) := gd (IA 58 v1) (if (h 58 (Int32.toNatClampNeg v1)) = 0 then R_162_35 h else R_162_14 v1 (h 58 (Int32.toNatClampNeg v1)) h)
theorem r_162_0 {X : GX} {d : Nat} {r : Int32 × Hp} (hd : 3 ≤ d) (hq : RtX X (some (.int r.1)) r.2) {h : Hp} {v1 : Int32} (e : R_162_0 v1 h = some r) : G X d 162 0 [some (.ref 0), some (.int v1), none] [] h := by
  unfold R_162_0 at e
  have g := gd_s e; clear e; obtain ⟨b0, e⟩ := g
  refine k_162_0 b0 (fun c => ?_) (fun c => ?_)
  · rw [if_pos c] at e; exact r_162_35 hd hq e
  · rw [if_neg c] at e; exact r_162_14 hd hq e
noncomputable def S_162 (v1 : Int32) (h : Hp) : Option (Int32 × Hp) := R_162_0 v1 h
set_option maxRecDepth 100000 in
theorem t_162 {v1 : Int32} {h : Hp} {r : Int32 × Hp} (e : S_162 v1 h = some r) : CI 3 162 [.ref 0, .int v1] h (fun x g => x = r.1 ∧ g = r.2) := by
  refine C.of mo_162 (Nat.le_of_ble_eq_true rfl) (fun X hq => ?_)
  exact r_162_0 (Nat.le_refl _) (hq _ _ ⟨_, rfl, rfl, rfl⟩) e
/-! 161 PlayedTruth.taken(II)I -/
noncomputable def R_161_29 (h : Hp) : Option (Int32 × Hp) := some (((-1)), h)
theorem r_161_29 {X : GX} {d : Nat} {r : Int32 × Hp} (hd : 4 ≤ d) (hq : RtX X (some (.int r.1)) r.2) {h : Hp} (e : R_161_29 h = some r) : G X d 161 29 [none, none, none, none, none] [] h := by
  unfold R_161_29 at e
  rw [← Option.some.inj e] at hq
  exact k_161_29 hq
noncomputable def R_161_116 (h : Hp) : Option (Int32 × Hp) := some (((-13)), h)
theorem r_161_116 {X : GX} {d : Nat} {r : Int32 × Hp} (hd : 4 ≤ d) (hq : RtX X (some (.int r.1)) r.2) {h : Hp} (e : R_161_116 h = some r) : G X d 161 116 [none, none, none, none, none] [] h := by
  unfold R_161_116 at e
  rw [← Option.some.inj e] at hq
  exact k_161_116 hq
noncomputable def R_161_111 (v4 : Int32) (h : Hp) : Option (Int32 × Hp) := some (v4, h)
theorem r_161_111 {X : GX} {d : Nat} {r : Int32 × Hp} (hd : 4 ≤ d) (hq : RtX X (some (.int r.1)) r.2) {h : Hp} {v4 : Int32} (e : R_161_111 v4 h = some r) : G X d 161 111 [none, none, none, none, some (.int v4)] [] h := by
  unfold R_161_111 at e
  rw [← Option.some.inj e] at hq
  exact k_161_111 hq
noncomputable def R_161_108 (v4 : Int32) (s0 : Int32) (h : Hp) : Option (Int32 × Hp) := if s0 = 0 then R_161_116 h else R_161_111 v4 h
theorem r_161_108 {X : GX} {d : Nat} {r : Int32 × Hp} (hd : 4 ≤ d) (hq : RtX X (some (.int r.1)) r.2) {h : Hp} {v4 : Int32} {s0 : Int32} (e : R_161_108 v4 s0 h = some r) : G X d 161 108 [none, none, none, none, some (.int v4)] [.int s0] h := by
  unfold R_161_108 at e
  refine k_161_108 (fun c => ?_) (fun c => ?_)
  · rw [if_pos c] at e; exact r_161_116 hd hq e
  · rw [if_neg c] at e; exact r_161_111 hd hq e
noncomputable def R_161_94 (v2 : Int32) (v4 : Int32) (h : Hp) : Option (Int32 × Hp) := gd (IA 2 v4) (bndI (S_26 (h 2 (Int32.toNatClampNeg v4)) v2 h) (R_161_108 v4))
theorem r_161_94 {X : GX} {d : Nat} {r : Int32 × Hp} (hd : 4 ≤ d) (hq : RtX X (some (.int r.1)) r.2) {h : Hp} {v2 : Int32} {v4 : Int32} (e : R_161_94 v2 v4 h = some r) : G X d 161 94 [some (.ref 0), none, some (.int v2), none, some (.int v4)] [] h := by
  unfold R_161_94 at e
  have g := gd_s e; clear e; obtain ⟨b0, e⟩ := g
  obtain ⟨x, h2, e1, e2⟩ := bndI_s e
  refine k_161_94 b0 (by omega) (t_26 e1) ?_
  rintro _ _ ⟨rfl, rfl⟩
  exact r_161_108 hd hq e2
noncomputable def R_161_90 (v2 : Int32) (v3 : Int32) (v4 : Int32) (h : Hp) : Option (Int32 × Hp) := if v3 = 0 then R_161_116 h else R_161_94 v2 v4 h
theorem r_161_90 {X : GX} {d : Nat} {r : Int32 × Hp} (hd : 4 ≤ d) (hq : RtX X (some (.int r.1)) r.2) {h : Hp} {v2 : Int32} {v3 : Int32} {v4 : Int32} (e : R_161_90 v2 v3 v4 h = some r) : G X d 161 90 [some (.ref 0), none, some (.int v2), some (.int v3), some (.int v4)] [] h := by
  unfold R_161_90 at e
  refine k_161_90 (fun c => ?_) (fun c => ?_)
  · rw [if_pos c] at e; exact r_161_116 hd hq e
  · rw [if_neg c] at e; exact r_161_94 hd hq e
noncomputable def R_161_87 (h : Hp) : Option (Int32 × Hp) := some (((-13)), h)
theorem r_161_87 {X : GX} {d : Nat} {r : Int32 × Hp} (hd : 4 ≤ d) (hq : RtX X (some (.int r.1)) r.2) {h : Hp} (e : R_161_87 h = some r) : G X d 161 87 [none, none, none, none, none] [] h := by
  unfold R_161_87 at e
  rw [← Option.some.inj e] at hq
  exact k_161_87 hq
noncomputable def R_161_75 (v1 : Int32) (h : Hp) : Option (Int32 × Hp) := gd (IA 60 v1) (some ((h 60 (Int32.toNatClampNeg v1)), h))
theorem r_161_75 {X : GX} {d : Nat} {r : Int32 × Hp} (hd : 4 ≤ d) (hq : RtX X (some (.int r.1)) r.2) {h : Hp} {v1 : Int32} (e : R_161_75 v1 h = some r) : G X d 161 75 [some (.ref 0), some (.int v1), none, none, none] [] h := by
  unfold R_161_75 at e
  have g := gd_s e; clear e; obtain ⟨b0, e⟩ := g
  rw [← Option.some.inj e] at hq
  exact k_161_75 b0 hq
noncomputable def R_161_66 (v1 : Int32) (v2 : Int32) (v4 : Int32) (h : Hp) : Option (Int32 × Hp) := if v4 = (v2 - 10) then R_161_75 v1 h else R_161_87 h
theorem r_161_66 {X : GX} {d : Nat} {r : Int32 × Hp} (hd : 4 ≤ d) (hq : RtX X (some (.int r.1)) r.2) {h : Hp} {v1 : Int32} {v2 : Int32} {v4 : Int32} (e : R_161_66 v1 v2 v4 h = some r) : G X d 161 66 [some (.ref 0), some (.int v1), some (.int v2), none, some (.int v4)] [] h := by
  unfold R_161_66 at e
  refine k_161_66 (fun c => ?_) (fun c => ?_)
  · rw [if_neg c] at e; exact r_161_87 hd hq e
  · rw [if_pos c] at e; exact r_161_75 hd hq e
noncomputable def R_161_42 (v1 : Int32) (v2 : Int32) (v3 : Int32) (h : Hp) : Option (Int32 × Hp) := gd (IA 59 v1 ∧ IA 58 v1) (if (h 58 (Int32.toNatClampNeg v1)) = 2 then R_161_66 v1 v2 (h 59 (Int32.toNatClampNeg v1)) h else R_161_90 v2 v3 (h 59 (Int32.toNatClampNeg v1)) h)
theorem r_161_42 {X : GX} {d : Nat} {r : Int32 × Hp} (hd : 4 ≤ d) (hq : RtX X (some (.int r.1)) r.2) {h : Hp} {v1 : Int32} {v2 : Int32} {v3 : Int32} (e : R_161_42 v1 v2 v3 h = some r) : G X d 161 42 [some (.ref 0), some (.int v1), some (.int v2), some (.int v3), none] [] h := by
  unfold R_161_42 at e
  have g := gd_s e; clear e; obtain ⟨⟨b0, b1⟩, e⟩ := g
  refine k_161_42 b0 b1 (fun c => ?_) (fun c => ?_)
  · rw [if_neg c] at e; exact r_161_90 hd hq e
  · rw [if_pos c] at e; exact r_161_66 hd hq e
noncomputable def R_161_39 (h : Hp) : Option (Int32 × Hp) := some (((-11)), h)
theorem r_161_39 {X : GX} {d : Nat} {r : Int32 × Hp} (hd : 4 ≤ d) (hq : RtX X (some (.int r.1)) r.2) {h : Hp} (e : R_161_39 h = some r) : G X d 161 39 [none, none, none, none, none] [] h := by
  unfold R_161_39 at e
  rw [← Option.some.inj e] at hq
  exact k_161_39 hq
noncomputable def R_161_36 (v1 : Int32) (v2 : Int32) (v3 : Int32) (s0 : Int32) (h : Hp) : Option (Int32 × Hp) := if s0 = 0 then R_161_42 v1 v2 v3 h else R_161_39 h
theorem r_161_36 {X : GX} {d : Nat} {r : Int32 × Hp} (hd : 4 ≤ d) (hq : RtX X (some (.int r.1)) r.2) {h : Hp} {v1 : Int32} {v2 : Int32} {v3 : Int32} {s0 : Int32} (e : R_161_36 v1 v2 v3 s0 h = some r) : G X d 161 36 [some (.ref 0), some (.int v1), some (.int v2), some (.int v3), none] [.int s0] h := by
  unfold R_161_36 at e
  refine k_161_36 (fun c => ?_) (fun c => ?_)
  · rw [if_pos c] at e; exact r_161_42 hd hq e
  · rw [if_neg c] at e; exact r_161_39 hd hq e
noncomputable def R_161_31 (v1 : Int32) (v2 : Int32) (v3 : Int32) (h : Hp) : Option (Int32 × Hp) := bndI (S_162 v1 h) (R_161_36 v1 v2 v3)
theorem r_161_31 {X : GX} {d : Nat} {r : Int32 × Hp} (hd : 4 ≤ d) (hq : RtX X (some (.int r.1)) r.2) {h : Hp} {v1 : Int32} {v2 : Int32} {v3 : Int32} (e : R_161_31 v1 v2 v3 h = some r) : G X d 161 31 [some (.ref 0), some (.int v1), some (.int v2), some (.int v3), none] [] h := by
  unfold R_161_31 at e
  obtain ⟨x, h2, e1, e2⟩ := bndI_s e
  refine k_161_31 (by omega) (t_162 e1) ?_
  rintro _ _ ⟨rfl, rfl⟩
  exact r_161_36 hd hq e2
noncomputable def R_161_26 (v1 : Int32) (v2 : Int32) (v3 : Int32) (s0 : Int32) (h : Hp) : Option (Int32 × Hp) := if s0 = 0 then R_161_29 h else R_161_31 v1 v2 v3 h
theorem r_161_26 {X : GX} {d : Nat} {r : Int32 × Hp} (hd : 4 ≤ d) (hq : RtX X (some (.int r.1)) r.2) {h : Hp} {v1 : Int32} {v2 : Int32} {v3 : Int32} {s0 : Int32} (e : R_161_26 v1 v2 v3 s0 h = some r) : G X d 161 26 [some (.ref 0), some (.int v1), some (.int v2), some (.int v3), none] [.int s0] h := by
  unfold R_161_26 at e
  refine k_161_26 (fun c => ?_) (fun c => ?_)
  · rw [if_neg c] at e; exact r_161_31 hd hq e
  · rw [if_pos c] at e; exact r_161_29 hd hq e
noncomputable def R_161_18 (v1 : Int32) (v2 : Int32) (v3 : Int32) (h : Hp) : Option (Int32 × Hp) := bndI (S_11 v2 10 14 h) (R_161_26 v1 v2 v3)
theorem r_161_18 {X : GX} {d : Nat} {r : Int32 × Hp} (hd : 4 ≤ d) (hq : RtX X (some (.int r.1)) r.2) {h : Hp} {v1 : Int32} {v2 : Int32} {v3 : Int32} (e : R_161_18 v1 v2 v3 h = some r) : G X d 161 18 [some (.ref 0), some (.int v1), some (.int v2), some (.int v3), none] [] h := by
  unfold R_161_18 at e
  obtain ⟨x, h2, e1, e2⟩ := bndI_s e
  refine k_161_18 (by omega) (t_11 e1) ?_
  rintro _ _ ⟨rfl, rfl⟩
  exact r_161_26 hd hq e2
noncomputable def R_161_14 (v1 : Int32) (v2 : Int32) (v3 : Int32) (h : Hp) : Option (Int32 × Hp) := if v3 = 0 then R_161_18 v1 v2 v3 h else R_161_31 v1 v2 v3 h
theorem r_161_14 {X : GX} {d : Nat} {r : Int32 × Hp} (hd : 4 ≤ d) (hq : RtX X (some (.int r.1)) r.2) {h : Hp} {v1 : Int32} {v2 : Int32} {v3 : Int32} (e : R_161_14 v1 v2 v3 h = some r) : G X d 161 14 [some (.ref 0), some (.int v1), some (.int v2), some (.int v3), none] [] h := by
  unfold R_161_14 at e
  refine k_161_14 (fun c => ?_) (fun c => ?_)
  · rw [if_neg c] at e; exact r_161_31 hd hq e
  · rw [if_pos c] at e; exact r_161_18 hd hq e
noncomputable def R_161_11 (v1 : Int32) (v2 : Int32) (v3 : Int32) (s0 : Int32) (h : Hp) : Option (Int32 × Hp) := if s0 = 0 then R_161_29 h else R_161_14 v1 v2 v3 h
theorem r_161_11 {X : GX} {d : Nat} {r : Int32 × Hp} (hd : 4 ≤ d) (hq : RtX X (some (.int r.1)) r.2) {h : Hp} {v1 : Int32} {v2 : Int32} {v3 : Int32} {s0 : Int32} (e : R_161_11 v1 v2 v3 s0 h = some r) : G X d 161 11 [some (.ref 0), some (.int v1), some (.int v2), some (.int v3), none] [.int s0] h := by
  unfold R_161_11 at e
  refine k_161_11 (fun c => ?_) (fun c => ?_)
  · rw [if_pos c] at e; exact r_161_29 hd hq e
  · rw [if_neg c] at e; exact r_161_14 hd hq e
noncomputable def R_161_6 (v1 : Int32) (v2 : Int32) (s0 : Int32) (h : Hp) : Option (Int32 × Hp) := bndI (S_158 v1 h) (R_161_11 v1 v2 s0)
theorem r_161_6 {X : GX} {d : Nat} {r : Int32 × Hp} (hd : 4 ≤ d) (hq : RtX X (some (.int r.1)) r.2) {h : Hp} {v1 : Int32} {v2 : Int32} {s0 : Int32} (e : R_161_6 v1 v2 s0 h = some r) : G X d 161 6 [some (.ref 0), some (.int v1), some (.int v2), none, none] [.int s0] h := by
  unfold R_161_6 at e
  obtain ⟨x, h2, e1, e2⟩ := bndI_s e
  refine k_161_6 (by omega) (t_158 e1) ?_
  rintro _ _ ⟨rfl, rfl⟩
  exact r_161_11 hd hq e2
noncomputable def R_161_0 (v1 : Int32) (v2 : Int32) (h : Hp) : Option (Int32 × Hp) := bndI (S_11 v2 0 5 h) (R_161_6 v1 v2)
theorem r_161_0 {X : GX} {d : Nat} {r : Int32 × Hp} (hd : 4 ≤ d) (hq : RtX X (some (.int r.1)) r.2) {h : Hp} {v1 : Int32} {v2 : Int32} (e : R_161_0 v1 v2 h = some r) : G X d 161 0 [some (.ref 0), some (.int v1), some (.int v2), none, none] [] h := by
  unfold R_161_0 at e
  obtain ⟨x, h2, e1, e2⟩ := bndI_s e
  refine k_161_0 (by omega) (t_11 e1) ?_
  rintro _ _ ⟨rfl, rfl⟩
  exact r_161_6 hd hq e2
noncomputable def S_161 (v1 : Int32) (v2 : Int32) (h : Hp) : Option (Int32 × Hp) := R_161_0 v1 v2 h
set_option maxRecDepth 100000 in
theorem t_161 {v1 : Int32} {v2 : Int32} {h : Hp} {r : Int32 × Hp} (e : S_161 v1 v2 h = some r) : CI 4 161 [.ref 0, .int v1, .int v2] h (fun x g => x = r.1 ∧ g = r.2) := by
  refine C.of mo_161 (Nat.le_of_ble_eq_true rfl) (fun X hq => ?_)
  exact r_161_0 (Nat.le_refl _) (hq _ _ ⟨_, rfl, rfl, rfl⟩) e
