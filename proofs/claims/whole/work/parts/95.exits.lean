/-! part 95: bodies of EXITS -/
theorem b13 {hc hm : Hp} {k i : Nat} {a x : Int32} (T : ThM hm k i a) {d : Nat} (hd : d ≤ 14) (m M : Nat) : Sim hc hm k (nI i) a (fun H => (SG_166 (m + 7)).2 (nI 13) x (nI d) H) (fun H => SG_290 (M + 1) (nI 0) x H) := by
  refine Sim.body (m := m + 6) (G := R_290_34 (SG_290 M) x) (by decide) (by omega) (fun H => ?_) ?_
  · show R_290_0 (SG_290 M) (nI 0) x H = _
    simp (disch := omega) only [R_290_0, R_290_28, gd_t, bI_, bV_, bR_, and_self, and_true, true_and, ↓reduceIte, eq_self, oj_84, bI_1, bI_0, L0, L1, L2, L3, L9, L13, L36, L51, L60, L84]
  · refine (Sim.two' (sK T (hc := hc) (x := x) (d := d + 2) (by omega) m 57) (hK T (hc := hc) (x := x) (d := d + 2) (by omega) (m + 1) 57) (fun u v => u + v) (F := R_167_193 (SG_166 (m + 6)).1 (SG_166 (m + 6)).2 x (nI (d + 1))) (G := R_290_48 (SG_290 M) x) (fun u H c tr p hC => ?_) (fun u H c tr p hM => ?_)).eq (fun H c tr p hC => ?_) (fun H c tr p hM => ?_)
    · have e := does_e (act := 2) (x := x) hC T.2.2.1 (by decide) (m + 5) (d + 1)
      simp (disch := omega) only [R_167_193, gd_t, bI_, bV_, bR_, and_self, and_true, true_and, ↓reduceIte, eq_self, oj_84, bI_1, bI_0, L0, L1, L2, L3, L4, L5, L6, L7, L10, L11, L12, L13, L20, L30, L40, L50, L51, L60, L61, L62]
      rw [e]
      rfl
    · obtain ⟨o1, o2, o3⟩ := of_k T hM
      simp (disch := omega) only [R_290_48, R_290_60, gd_t, bI_, bV_, bR_, and_self, and_true, true_and, ↓reduceIte, eq_self, oj_84, bI_1, bI_0, L0, L1, L2, L3, L9, L13, L36, L51, L60, L84, o1, o2, S_289]
      rfl
    · have e := does_e (act := 1) (x := x) hC T.2.2.1 (by decide) (m + 5) (d + 1)
      simp (disch := omega) only [R_167_41, R_167_185, gd_t, bI_, bV_, bR_, and_self, and_true, true_and, ↓reduceIte, eq_self, oj_84, bI_1, bI_0, L0, L1, L2, L3, L4, L5, L6, L7, L10, L11, L12, L13, L20, L30, L40, L50, L51, L60, L61, L62, eq_f, nI_add]
      rw [e]
    · obtain ⟨o1, o2, o3⟩ := of_k T hM
      simp (disch := omega) only [R_290_34, R_290_44, gd_t, bI_, bV_, bR_, and_self, and_true, true_and, ↓reduceIte, eq_self, oj_84, bI_1, bI_0, L0, L1, L2, L3, L9, L13, L36, L51, L60, L84, o1, o2, S_288]
theorem ex_0 {x : Int32} {M k : Nat} {H : Hp} (hk : k = 1 ∨ k = 2 ∨ k = 4) : SG_290 (M + 2) (nI k) x H = SG_290 (M + 1) (nI 0) x H := by
  have e : R_290_113 (SG_290 (M + 1)) = fun u H => some (u, H) := rfl
  rcases hk with rfl | rfl | rfl
  · show R_290_0 (SG_290 (M + 1)) (nI 1) x H = _
    simp (disch := omega) only [R_290_0, R_290_104, S_192, R_192_0, R_192_9, R_192_18, R_290_109, gd_t, bI_, bV_, bR_, and_self, and_true, true_and, ↓reduceIte, eq_self, oj_84, bI_1, bI_0, L0, L1, L2, L3, L4, L5, L9, L13, L36, L51, L60, L84, eq_f, e, bndI_id]
  · show R_290_0 (SG_290 (M + 1)) (nI 2) x H = _
    simp (disch := omega) only [R_290_0, R_290_104, S_192, R_192_0, R_192_9, R_192_18, R_290_109, gd_t, bI_, bV_, bR_, and_self, and_true, true_and, ↓reduceIte, eq_self, oj_84, bI_1, bI_0, L0, L1, L2, L3, L4, L5, L9, L13, L36, L51, L60, L84, eq_f, e, bndI_id]
  · show R_290_0 (SG_290 (M + 1)) (nI 4) x H = _
    simp (disch := omega) only [R_290_0, R_290_104, S_192, R_192_0, R_192_9, R_192_18, R_290_109, gd_t, bI_, bV_, bR_, and_self, and_true, true_and, ↓reduceIte, eq_self, oj_84, bI_1, bI_0, L0, L1, L2, L3, L4, L5, L9, L13, L36, L51, L60, L84, eq_f, e, bndI_id]
theorem ex_5 {x : Int32} {M : Nat} {H : Hp} : SG_290 (M + 3) (nI 5) x H = SG_290 (M + 1) (nI 0) x H := by
  have e : R_290_113 (SG_290 (M + 2)) = fun u H => some (u, H) := rfl
  rw [← ex_0 (k := 4) (Or.inr (Or.inr rfl))]
  show R_290_0 (SG_290 (M + 2)) (nI 5) x H = _
  simp (disch := omega) only [R_290_0, R_290_104, S_192, R_192_0, R_192_9, R_192_14, R_290_109, gd_t, bI_, bV_, bR_, and_self, and_true, true_and, ↓reduceIte, eq_self, oj_84, bI_1, bI_0, L0, L1, L2, L3, L4, L5, L9, L13, L36, L51, L60, L84, eq_f, e, bndI_id]
theorem b51 {hc hm : Hp} {k i : Nat} {a x : Int32} (T : ThM hm k i a) {d : Nat} (hd : d ≤ 13) (m M : Nat) : Sim hc hm k (nI i) a (fun H => (SG_166 (m + 8)).2 (nI 51) x (nI d) H) (fun H => SG_290 (M + 3) (nI 3) x H) := by
  refine Sim.body (m := m + 7) (G := R_290_72 (SG_290 (M + 2)) x) (by decide) (by omega) (fun H => ?_) ?_
  · show R_290_0 (SG_290 (M + 2)) (nI 3) x H = _
    simp (disch := omega) only [R_290_0, R_290_66, gd_t, bI_, bV_, bR_, and_self, and_true, true_and, ↓reduceIte, eq_self, oj_84, bI_1, bI_0, L0, L1, L2, L3, L9, L13, L36, L51, L60, L84, eq_f]
  · refine (Sim.two' (b13 T (hc := hc) (x := x) (d := d + 1) (by omega) m M) (sK T (hc := hc) (x := a) (d := d + 2) (by omega) (m + 1) 57) (fun u v => u - v) (F := R_167_263 (SG_166 (m + 7)).1 (SG_166 (m + 7)).2 (nI (d + 1))) (G := R_290_78 (SG_290 (M + 2))) (fun u H c tr p hC => ?_) (fun u H c tr p hM => ?_)).eq (fun H c tr p _ => ?_) (fun H c tr p _ => ?_)
    · have e := does_e (act := 1) (x := a) hC T.2.2.1 (by decide) (m + 6) (d + 1)
      have e5 := hC.2.2.2.2.2.2.2
      simp (disch := omega) only [R_167_263, gd_t, bI_, bV_, bR_, and_self, and_true, true_and, ↓reduceIte, eq_self, oj_84, bI_1, bI_0, L0, L1, L2, L3, L4, L5, L6, L7, L10, L11, L12, L13, L20, L30, L40, L50, L51, L60, L61, L62, e5]
      rw [e]
      rfl
    · obtain ⟨o1, o2, o3⟩ := of_k T hM
      simp (disch := omega) only [R_290_78, R_290_90, R_290_99, gd_t, bI_, bV_, bR_, and_self, and_true, true_and, ↓reduceIte, eq_self, oj_84, bI_1, bI_0, L0, L1, L2, L3, L9, L13, L36, L51, L60, L84, o1, o2, o3, S_288]
      rfl
    · simp (disch := omega) only [R_167_41, R_167_254, gd_t, bI_, bV_, bR_, and_self, and_true, true_and, ↓reduceIte, eq_self, oj_84, bI_1, bI_0, L0, L1, L2, L3, L4, L5, L6, L7, L10, L11, L12, L13, L20, L30, L40, L50, L51, L60, L61, L62, eq_f, nI_add]
    · simp (disch := omega) only [R_290_72, gd_t, bI_, bV_, bR_, and_self, and_true, true_and, ↓reduceIte, eq_self, oj_84, bI_1, bI_0, L0, L1, L2, L3, L9, L13, L36, L51, L60, L84]
      rw [ex_0 (Or.inr (Or.inl rfl))]
/-- EXITS of every kind -/
theorem xK {hc hm : Hp} {k i : Nat} {a x : Int32} (T : ThM hm k i a) {d : Nat} (hd : d ≤ 13) (m M : Nat) : Sim hc hm k (nI i) a (fun H => (SG_166 (m + 8)).2 (bodyOf (k * 4 + 3)) x (nI d) H) (fun H => SG_290 (M + 3) (nI k) x H) := by
  rcases (show k = 1 ∨ k = 2 ∨ k = 3 ∨ k = 4 ∨ k = 5 by have := T.2.1; have := T.2.2.1; omega) with rfl | rfl | rfl | rfl | rfl
  · exact (b13 T (show d ≤ 14 by omega) (m + 1) (M + 1)).eq (fun _ _ _ _ _ => rfl) (fun _ _ _ _ _ => ex_0 (Or.inl rfl))
  · exact (b13 T (show d ≤ 14 by omega) (m + 1) (M + 1)).eq (fun _ _ _ _ _ => rfl) (fun _ _ _ _ _ => ex_0 (Or.inr (Or.inl rfl)))
  · exact b51 T hd m M
  · exact (b13 T (show d ≤ 14 by omega) (m + 1) (M + 1)).eq (fun _ _ _ _ _ => rfl) (fun _ _ _ _ _ => ex_0 (Or.inr (Or.inr rfl)))
  · exact (b13 T (show d ≤ 14 by omega) (m + 1) M).eq (fun _ _ _ _ _ => rfl) (fun _ _ _ _ _ => ex_5)
