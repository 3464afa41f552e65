/-! part 93: bodies of SPEAKS and HALVES -/
theorem Sim.map' {hc hm : Hp} {k : Nat} {n a : Int32} {f g : Hp → Option (Int32 × Hp)} (S : Sim hc hm k n a f g) (φ : Int32 → Int32) {F G : Int32 → Hp → Option (Int32 × Hp)} (eF : ∀ u H c tr p, AtC hc k n a H c tr p → F u H = some (φ u, H)) (eG : ∀ u H c tr p, AtM hm H c tr p → G u H = some (φ u, H)) : Sim hc hm k n a (fun H => bndI (f H) F) (fun H => bndI (g H) G) := by
  intro Hc Hm c tr p hC hM
  obtain ⟨u, v, Hc', Hm', c', tr', p', g1, g2, r1, r2, r3, r4⟩ := S Hc Hm c tr p hC hM
  refine ⟨φ u, φ v, Hc', Hm', c', tr', p', ?_, ?_, r1, r2, fun e => by rw [r3 e], r4⟩
  · show bndI (f Hc) _ = _
    rw [g1, bI_, eF u Hc' c' tr' p' r1]
  · show bndI (g Hm) _ = _
    rw [g2, bI_, eG v Hm' c' tr' p' r2]
/-- what the model's thing is -/
def ThM (hm : Hp) (k i : Nat) (a : Int32) : Prop := i < 6 ∧ 1 ≤ k ∧ k ≤ 5 ∧ hm 84 36 = nI i ∧ hm 85 (35 + 5 * i + 0) = nI k ∧ hm 85 (35 + 5 * i + 3) = a
theorem of_k {hm H : Hp} {k i c : Nat} {a : Int32} {tr : Nat → Int32} {p : Bool} (T : ThM hm k i a) (hM : AtM hm H c tr p) : H 84 36 = nI i ∧ S_182 (nI i) (nI 0) H = some (nI k, H) ∧ S_182 (nI i) (nI 3) H = some (a, H) := by
  obtain ⟨t1, -, -, t4, t5, t6⟩ := T
  refine ⟨by rw [hM.2.1 36 (by decide) (by decide)]; exact t4, ?_, ?_⟩
  · rw [s_182 t1 (by decide), hM.1 85 (by decide) (by decide), t5]
  · rw [s_182 t1 (by decide), hM.1 85 (by decide) (by decide), t6]
theorem b11 {hc hm : Hp} {k i : Nat} {a x : Int32} (T : ThM hm k i a) {d : Nat} (hd : d ≤ 17) (m M : Nat) : Sim hc hm k (nI i) a (fun H => (SG_166 (m + 4)).2 (nI 11) x (nI d) H) (fun H => SG_288 (M + 1) (nI 0) x H) := by
  refine Sim.body (m := m + 3) (G := R_288_42 (SG_288 M) x) (by decide) (by omega) (fun H => ?_) ?_
  · show R_288_0 (SG_288 M) (nI 0) x H = _
    simp (disch := omega) only [R_288_0, R_288_36, gd_t, bI_, bV_, bR_, and_self, and_true, true_and, ↓reduceIte, eq_self, oj_84, bI_1, bI_0, L0, L1, L2, L3, L4, L5, L9, L11, L30, L36, L60, L84]
  · refine (Sim.map' (eK (hc := hc) (hm := hm) (a := a) (x := x) T.2.2.2.1 T.2.1 T.2.2.1 (d := d + 2) (by omega) m 57) (fun u => u - a) (F := R_167_162 (SG_166 (m + 3)).1 (SG_166 (m + 3)).2) (G := R_288_56 (SG_288 M)) (fun u H c tr p hC => ?_) (fun u H c tr p hM => ?_)).eq (fun H c tr p hC => ?_) (fun H c tr p hM => ?_)
    · have e := hC.2.2.2.2.2.2.2
      simp (disch := omega) only [R_167_162, gd_t, bI_, bV_, bR_, and_self, and_true, true_and, ↓reduceIte, eq_self, oj_84, bI_1, bI_0, L0, L1, e]
    · obtain ⟨o1, o2, o3⟩ := of_k T hM
      simp (disch := omega) only [R_288_56, R_288_65, gd_t, bI_, bV_, bR_, and_self, and_true, true_and, ↓reduceIte, eq_self, oj_84, bI_1, bI_0, L0, L1, L2, L3, L4, L5, L9, L11, L30, L36, L60, L84, o1, o3]
    · have e := does_e (act := 0) (x := x) hC T.2.2.1 (by decide) (m + 2) (d + 1)
      simp (disch := omega) only [R_167_41, R_167_154, gd_t, bI_, bV_, bR_, and_self, and_true, true_and, ↓reduceIte, eq_self, oj_84, bI_1, bI_0, L0, L1, L2, L3, L4, L5, L6, L7, L10, L11, L12, L13, L20, L30, L40, L50, L51, L60, L61, L62, eq_f, nI_add]
      rw [e]
      rfl
    · obtain ⟨o1, o2, o3⟩ := of_k T hM
      simp (disch := omega) only [R_288_42, R_288_52, gd_t, bI_, bV_, bR_, and_self, and_true, true_and, ↓reduceIte, eq_self, oj_84, bI_1, bI_0, L0, L1, L2, L3, L4, L5, L9, L11, L30, L36, L60, L84, o1, o2, S_286]
theorem b30 {hc hm : Hp} {k i : Nat} {a x : Int32} (T : ThM hm k i a) {d : Nat} (hd : d ≤ 16) (m M : Nat) : Sim hc hm k (nI i) a (fun H => (SG_166 (m + 5)).2 (nI 30) x (nI d) H) (fun H => SG_288 (M + 2) (nI 2) x H) := by
  refine Sim.body (m := m + 4) (G := R_288_73 (SG_288 (M + 1)) x) (by decide) (by omega) (fun H => ?_) ?_
  · show R_288_0 (SG_288 (M + 1)) (nI 2) x H = _
    simp (disch := omega) only [R_288_0, R_288_67, gd_t, bI_, bV_, bR_, and_self, and_true, true_and, ↓reduceIte, eq_self, oj_84, bI_1, bI_0, L0, L1, L2, L3, L4, L5, L9, L11, L30, L36, L60, L84, eq_f]
  · refine ((b11 T (x := x) (d := d + 1) (by omega) m M).map (fun u => u * nI 2)).eq (fun H c tr p _ => ?_) (fun H c tr p _ => ?_)
    · simp (disch := omega) only [R_167_41, R_167_216, gd_t, bI_, bV_, bR_, and_self, and_true, true_and, ↓reduceIte, eq_self, oj_84, bI_1, bI_0, L0, L1, L2, L3, L4, L5, L6, L7, L10, L11, L12, L13, L20, L30, L40, L50, L51, L60, L61, L62, eq_f, nI_add]
      rfl
    · simp (disch := omega) only [R_288_73, gd_t, bI_, bV_, bR_, and_self, and_true, true_and, ↓reduceIte, eq_self, oj_84, bI_1, bI_0, L0, L1, L2, L3, L4, L5, L9, L11, L30, L36, L60, L84]
      rfl
theorem sp_0 {x : Int32} {M k : Nat} {H : Hp} (hk : k = 1 ∨ k = 4) : SG_288 (M + 2) (nI k) x H = SG_288 (M + 1) (nI 0) x H := by
  have e : R_288_106 (SG_288 (M + 1)) = fun u H => some (u, H) := rfl
  rcases hk with rfl | rfl
  · show R_288_0 (SG_288 (M + 1)) (nI 1) x H = _
    simp (disch := omega) only [R_288_0, R_288_97, S_192, R_192_0, R_192_9, R_192_18, R_288_102, gd_t, bI_, bV_, bR_, and_self, and_true, true_and, ↓reduceIte, eq_self, oj_84, bI_1, bI_0, L0, L1, L2, L3, L4, L5, L9, L11, L30, L36, L60, L84, eq_f, e, bndI_id]
  · show R_288_0 (SG_288 (M + 1)) (nI 4) x H = _
    simp (disch := omega) only [R_288_0, R_288_97, S_192, R_192_0, R_192_9, R_192_18, R_288_102, gd_t, bI_, bV_, bR_, and_self, and_true, true_and, ↓reduceIte, eq_self, oj_84, bI_1, bI_0, L0, L1, L2, L3, L4, L5, L9, L11, L30, L36, L60, L84, eq_f, e, bndI_id]
theorem sp_3 {x : Int32} {M : Nat} {H : Hp} : SG_288 (M + 2) (nI 3) x H = SG_288 (M + 1) (nI 2) x H := by
  have e : R_288_106 (SG_288 (M + 1)) = fun u H => some (u, H) := rfl
  show R_288_0 (SG_288 (M + 1)) (nI 3) x H = _
  simp (disch := omega) only [R_288_0, R_288_97, S_192, R_192_0, R_192_5, R_288_102, gd_t, bI_, bV_, bR_, and_self, and_true, true_and, ↓reduceIte, eq_self, oj_84, bI_1, bI_0, L0, L1, L2, L3, L4, L5, L9, L11, L30, L36, L60, L84, eq_f, e, bndI_id]
theorem b60 {hc hm : Hp} {k i : Nat} {a x : Int32} (T : ThM hm k i a) {d : Nat} (hd : d ≤ 16) (m M : Nat) : Sim hc hm k (nI i) a (fun H => (SG_166 (m + 5)).2 (nI 60) x (nI d) H) (fun H => SG_288 (M + 3) (nI 5) x H) := by
  refine Sim.body (m := m + 4) (G := R_288_88 (SG_288 (M + 2)) x) (by decide) (by omega) (fun H => ?_) ?_
  · show R_288_0 (SG_288 (M + 2)) (nI 5) x H = _
    simp (disch := omega) only [R_288_0, R_288_82, gd_t, bI_, bV_, bR_, and_self, and_true, true_and, ↓reduceIte, eq_self, oj_84, bI_1, bI_0, L0, L1, L2, L3, L4, L5, L9, L11, L30, L36, L60, L84, eq_f]
  · refine ((b11 T (x := x) (d := d + 1) (by omega) m M).map (fun u => nI 0 - u)).eq (fun H c tr p _ => ?_) (fun H c tr p _ => ?_)
    · simp (disch := omega) only [R_167_41, R_167_276, gd_t, bI_, bV_, bR_, and_self, and_true, true_and, ↓reduceIte, eq_self, oj_84, bI_1, bI_0, L0, L1, L2, L3, L4, L5, L6, L7, L10, L11, L12, L13, L20, L30, L40, L50, L51, L60, L61, L62, eq_f, nI_add]
      rfl
    · simp (disch := omega) only [R_288_88, gd_t, bI_, bV_, bR_, and_self, and_true, true_and, ↓reduceIte, eq_self, oj_84, bI_1, bI_0, L0, L1, L2, L3, L4, L5, L9, L11, L30, L36, L60, L84]
      rw [sp_0 (Or.inr rfl)]
      rfl
/-- SPEAKS of every kind -/
theorem sK {hc hm : Hp} {k i : Nat} {a x : Int32} (T : ThM hm k i a) {d : Nat} (hd : d ≤ 16) (m M : Nat) : Sim hc hm k (nI i) a (fun H => (SG_166 (m + 5)).2 (bodyOf (k * 4 + 1)) x (nI d) H) (fun H => SG_288 (M + 3) (nI k) x H) := by
  rcases (show k = 1 ∨ k = 2 ∨ k = 3 ∨ k = 4 ∨ k = 5 by have := T.2.1; have := T.2.2.1; omega) with rfl | rfl | rfl | rfl | rfl
  · exact (b11 T (show d ≤ 17 by omega) (m + 1) (M + 1)).eq (fun _ _ _ _ _ => rfl) (fun _ _ _ _ _ => sp_0 (Or.inl rfl))
  · exact b30 T hd m (M + 1)
  · exact (b30 T hd m M).eq (fun _ _ _ _ _ => rfl) (fun _ _ _ _ _ => sp_3)
  · exact (b11 T (show d ≤ 17 by omega) (m + 1) (M + 1)).eq (fun _ _ _ _ _ => rfl) (fun _ _ _ _ _ => sp_0 (Or.inr rfl))
  · exact b60 T hd m M
