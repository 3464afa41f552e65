/-! part 94: bodies of HALVES and EXITS -/
theorem Sim.two' {hc hm : Hp} {k : Nat} {n a : Int32} {f1 g1 f2 g2 : Hp → Option (Int32 × Hp)} (S1 : Sim hc hm k n a f1 g1) (S2 : Sim hc hm k n a f2 g2) (φ : Int32 → Int32 → Int32) {F G : Int32 → Hp → Option (Int32 × Hp)} (eF : ∀ u H c tr p, AtC hc k n a H c tr p → F u H = bndI (f2 H) (fun v H' => some (φ u v, H'))) (eG : ∀ u H c tr p, AtM hm H c tr p → G u H = bndI (g2 H) (fun v H' => some (φ u v, H'))) : Sim hc hm k n a (fun H => bndI (f1 H) F) (fun H => bndI (g1 H) G) := by
  intro Hc Hm c tr p hC hM
  obtain ⟨u, v, Hc1, Hm1, c1, tr1, p1, e1, e2, r1, r2, r3, r4⟩ := S1 Hc Hm c tr p hC hM
  obtain ⟨u', v', Hc2, Hm2, c2, tr2, p2, e3, e4, t1, t2, t3, t4⟩ := S2 Hc1 Hm1 c1 tr1 p1 r1 r2
  refine ⟨φ u u', φ v v', Hc2, Hm2, c2, tr2, p2, ?_, ?_, t1, t2, fun e => ?_, fun e => ?_⟩
  · show bndI (f1 Hc) _ = _
    rw [e1, bI_, eF u Hc1 c1 tr1 p1 r1, e3, bI_]
  · show bndI (g1 Hm) _ = _
    rw [e2, bI_, eG v Hm1 c1 tr1 p1 r2, e4, bI_]
  · have : p1 = false := by
      cases h : p1 with
      | false => rfl
      | true => have := (t4 h).1; rw [this] at e; cases e
    rw [r3 this, t3 e]
  · obtain ⟨x1, x2, x3⟩ := r4 e
    obtain ⟨y1, y2, y3⟩ := t4 x1
    exact ⟨y1, y2.trans x2, y3.trans x3⟩
theorem AtM.w37 {hm H : Hp} {c : Nat} {tr : Nat → Int32} {p q : Bool} (hM : AtM hm H c tr p) : AtM hm (wr H 84 37 (bI q)) c tr q := by
  obtain ⟨m1, m2, m3, m4, m5⟩ := hM
  exact ⟨fun y y1 y2 => by rw [wr_c y1]; exact m1 y y1 y2, fun j j1 j2 => by rw [wr_k j2]; exact m2 j j1 j2, by rw [wr_k (by decide)]; exact m3, fun j hj => by rw [wr_c (by decide)]; exact m4 j hj, wr_self⟩
theorem b12 {hc hm : Hp} {k i : Nat} {a x : Int32} (T : ThM hm k i a) {d : Nat} (hd : d ≤ 20) (m M : Nat) : Sim hc hm k (nI i) a (fun H => (SG_166 (m + 1)).2 (nI 12) x (nI d) H) (fun H => SG_289 (M + 1) (nI 0) x H) := by
  refine Sim.body (G := R_289_42 (SG_289 M) x) (by decide) hd (fun H => ?_) ?_
  · show R_289_0 (SG_289 M) (nI 0) x H = _
    simp (disch := omega) only [R_289_0, R_289_36, gd_t, bI_, bV_, bR_, and_self, and_true, true_and, ↓reduceIte, eq_self, oj_84, bI_1, bI_0, L0, L1, L3, L4, L5, L6, L9, L12, L36, L37, L40, L60, L61, L84]
  · intro Hc Hm c tr p hC hM
    obtain ⟨o1, o2, o3⟩ := of_k T hM
    have m5 := hM.2.2.2.2
    obtain ⟨c1, c2, c3, c4, c5, c6, c7, c8⟩ := id hC
    have e : R_167_184 (SG_166 m).1 (SG_166 m).2 = fun u H => some (u, H) := rfl
    by_cases b0 : a + nI i - nI 3 = nI 0
    · have b0' : (a + nI i - nI 3 = nI 0) = True := eq_true b0
      refine ⟨nI 0, nI 0, wr Hc 61 2 (bI true), wr Hm 84 37 (bI true), c, tr, true, ?_, ?_, ⟨fun y y1 y2 => by rw [wr_c y1]; exact c1 y y1 y2, by rw [wr_k (by decide)]; exact c2, c3, fun j hj => by rw [wr_c (by decide)]; exact c4 j hj, wr_self, by rw [wr_k (by decide)]; exact c6, by rw [wr_k (by decide)]; exact c7, by rw [wr_k (by decide)]; exact c8⟩, hM.w37, fun _ => rfl, fun _ => ⟨rfl, rfl, rfl⟩⟩
      · simp (disch := omega) only [R_167_41, R_167_168, S_168, R_168_0, R_168_4, gd_t, bI_, bV_, bR_, and_self, and_true, true_and, ↓reduceIte, eq_self, oj_84, bI_1, bI_0, L0, L1, L2, L3, L4, L5, L6, L7, L10, L11, L12, L13, L20, L30, L40, L50, L51, L60, L61, L62, eq_f, c7, c8, b0', e]
      · cases p with
        | false => simp (disch := omega) only [R_289_42, R_289_51, R_289_67, R_289_71, R_289_83, gd_t, bI_, bV_, bR_, and_self, and_true, true_and, ↓reduceIte, eq_self, oj_84, bI_1, bI_0, L0, L1, L3, L4, L5, L6, L9, L12, L36, L37, L40, L60, L61, L84, o1, o3, m5, b0']
        | true => simp (disch := omega) only [R_289_42, R_289_51, R_289_67, R_289_71, R_289_83, gd_t, bI_, bV_, bR_, and_self, and_true, true_and, ↓reduceIte, eq_self, oj_84, bI_1, bI_0, L0, L1, L3, L4, L5, L6, L9, L12, L36, L37, L40, L60, L61, L84, o1, o3, m5, b0', eq_f]
    · have b0' : (a + nI i - nI 3 = nI 0) = False := eq_false b0
      refine ⟨x / (a + nI i - nI 3), x / (a + nI i - nI 3), Hc, wr Hm 84 37 (bI p), c, tr, p, ?_, ?_, hC, hM.w37, fun _ => rfl, fun e => ⟨e, rfl, rfl⟩⟩
      · simp (disch := omega) only [R_167_41, R_167_168, S_168, R_168_0, R_168_11, gd_t, bI_, bV_, bR_, and_self, and_true, true_and, ↓reduceIte, eq_self, oj_84, bI_1, bI_0, L0, L1, L2, L3, L4, L5, L6, L7, L10, L11, L12, L13, L20, L30, L40, L50, L51, L60, L61, L62, eq_f, c7, c8, b0', e, not_false_eq_true]
      · cases p with
        | false => simp (disch := omega) only [R_289_42, R_289_51, R_289_67, R_289_75, R_289_87, gd_t, bI_, bV_, bR_, and_self, and_true, true_and, ↓reduceIte, eq_self, oj_84, bI_1, bI_0, L0, L1, L3, L4, L5, L6, L9, L12, L36, L37, L40, L60, L61, L84, o1, o3, m5, b0', not_false_eq_true]
        | true => simp (disch := omega) only [R_289_42, R_289_51, R_289_71, R_289_87, gd_t, bI_, bV_, bR_, and_self, and_true, true_and, ↓reduceIte, eq_self, oj_84, bI_1, bI_0, L0, L1, L3, L4, L5, L6, L9, L12, L36, L37, L40, L60, L61, L84, o1, o3, m5, b0', eq_f, not_false_eq_true]
theorem b40 {hc hm : Hp} {k i : Nat} {a x : Int32} (T : ThM hm k i a) {d : Nat} (hd : d ≤ 19) (m M : Nat) : Sim hc hm k (nI i) a (fun H => (SG_166 (m + 2)).2 (nI 40) x (nI d) H) (fun H => SG_289 (M + 2) (nI 4) x H) := by
  refine Sim.body (m := m + 1) (G := R_289_97 (SG_289 (M + 1)) x) (by decide) (by omega) (fun H => ?_) ?_
  · show R_289_0 (SG_289 (M + 1)) (nI 4) x H = _
    simp (disch := omega) only [R_289_0, R_289_91, gd_t, bI_, bV_, bR_, and_self, and_true, true_and, ↓reduceIte, eq_self, oj_84, bI_1, bI_0, L0, L1, L3, L4, L5, L6, L9, L12, L36, L37, L40, L60, L61, L84, eq_f]
  · refine ((b12 T (x := x) (d := d + 1) (by omega) m M).map (fun u => u + nI 6)).eq (fun H c tr p _ => ?_) (fun H c tr p _ => ?_)
    · simp (disch := omega) only [R_167_41, R_167_228, gd_t, bI_, bV_, bR_, and_self, and_true, true_and, ↓reduceIte, eq_self, oj_84, bI_1, bI_0, L0, L1, L2, L3, L4, L5, L6, L7, L10, L11, L12, L13, L20, L30, L40, L50, L51, L60, L61, L62, eq_f, nI_add]
      rfl
    · simp (disch := omega) only [R_289_97, gd_t, bI_, bV_, bR_, and_self, and_true, true_and, ↓reduceIte, eq_self, oj_84, bI_1, bI_0, L0, L1, L3, L4, L5, L6, L9, L12, L36, L37, L40, L60, L61, L84]
      rfl
theorem b61 {hc hm : Hp} {k i : Nat} {a x : Int32} (T : ThM hm k i a) {d : Nat} (hd : d ≤ 17) (m M : Nat) : Sim hc hm k (nI i) a (fun H => (SG_166 (m + 4)).2 (nI 61) x (nI d) H) (fun H => SG_289 (M + 3) (nI 5) x H) := by
  refine Sim.body (m := m + 3) (G := R_289_113 (SG_289 (M + 2)) x) (by decide) (by omega) (fun H => ?_) ?_
  · show R_289_0 (SG_289 (M + 2)) (nI 5) x H = _
    simp (disch := omega) only [R_289_0, R_289_107, gd_t, bI_, bV_, bR_, and_self, and_true, true_and, ↓reduceIte, eq_self, oj_84, bI_1, bI_0, L0, L1, L3, L4, L5, L6, L9, L12, L36, L37, L40, L60, L61, L84, eq_f]
  · refine (Sim.two' (b40 T (x := x) (d := d + 1) (by omega) (m + 1) M) (eK (hc := hc) (a := a) (x := nI i) T.2.2.2.1 T.2.1 T.2.2.1 (d := d + 2) (by omega) m 57) (fun u v => u ^^^ v) (F := R_167_297 (SG_166 (m + 3)).1 (SG_166 (m + 3)).2 (nI (d + 1))) (G := R_289_119 (SG_289 (M + 2))) (fun u H c tr p hC => ?_) (fun u H c tr p hM => ?_)).eq (fun H c tr p _ => ?_) (fun H c tr p _ => ?_)
    · have e := does_e (act := 0) (x := nI i) hC T.2.2.1 (by decide) (m + 2) (d + 1)
      have e4 := hC.2.2.2.2.2.2.1
      simp (disch := omega) only [R_167_297, gd_t, bI_, bV_, bR_, and_self, and_true, true_and, ↓reduceIte, eq_self, oj_84, bI_1, bI_0, L0, L1, L2, L3, L4, L5, L6, L7, L10, L11, L12, L13, L20, L30, L40, L50, L51, L60, L61, L62, e4]
      rw [e]
      rfl
    · obtain ⟨o1, o2, o3⟩ := of_k T hM
      simp (disch := omega) only [R_289_119, R_289_131, gd_t, bI_, bV_, bR_, and_self, and_true, true_and, ↓reduceIte, eq_self, oj_84, bI_1, bI_0, L0, L1, L3, L4, L5, L6, L9, L12, L36, L37, L40, L60, L61, L84, o1, o2, S_286]
      rfl
    · simp (disch := omega) only [R_167_41, R_167_288, gd_t, bI_, bV_, bR_, and_self, and_true, true_and, ↓reduceIte, eq_self, oj_84, bI_1, bI_0, L0, L1, L2, L3, L4, L5, L6, L7, L10, L11, L12, L13, L20, L30, L40, L50, L51, L60, L61, L62, eq_f, nI_add]
    · simp (disch := omega) only [R_289_113, gd_t, bI_, bV_, bR_, and_self, and_true, true_and, ↓reduceIte, eq_self, oj_84, bI_1, bI_0, L0, L1, L3, L4, L5, L6, L9, L12, L36, L37, L40, L60, L61, L84]
theorem ha_0 {x : Int32} {M k : Nat} {H : Hp} (hk : k = 1 ∨ k = 2) : SG_289 (M + 2) (nI k) x H = SG_289 (M + 1) (nI 0) x H := by
  have e : R_289_149 (SG_289 (M + 1)) = fun u H => some (u, H) := rfl
  rcases hk with rfl | rfl
  · show R_289_0 (SG_289 (M + 1)) (nI 1) x H = _
    simp (disch := omega) only [R_289_0, R_289_140, S_192, R_192_0, R_192_9, R_192_18, R_289_145, gd_t, bI_, bV_, bR_, and_self, and_true, true_and, ↓reduceIte, eq_self, oj_84, bI_1, bI_0, L0, L1, L2, L3, L4, L5, L6, L9, L12, L36, L37, L40, L60, L61, L84, eq_f, e, bndI_id]
  · show R_289_0 (SG_289 (M + 1)) (nI 2) x H = _
    simp (disch := omega) only [R_289_0, R_289_140, S_192, R_192_0, R_192_9, R_192_18, R_289_145, gd_t, bI_, bV_, bR_, and_self, and_true, true_and, ↓reduceIte, eq_self, oj_84, bI_1, bI_0, L0, L1, L2, L3, L4, L5, L6, L9, L12, L36, L37, L40, L60, L61, L84, eq_f, e, bndI_id]
theorem ha_3 {x : Int32} {M : Nat} {H : Hp} : SG_289 (M + 3) (nI 3) x H = SG_289 (M + 1) (nI 0) x H := by
  have e : R_289_149 (SG_289 (M + 2)) = fun u H => some (u, H) := rfl
  rw [← ha_0 (k := 2) (Or.inr rfl)]
  show R_289_0 (SG_289 (M + 2)) (nI 3) x H = _
  simp (disch := omega) only [R_289_0, R_289_140, S_192, R_192_0, R_192_5, R_289_145, gd_t, bI_, bV_, bR_, and_self, and_true, true_and, ↓reduceIte, eq_self, oj_84, bI_1, bI_0, L0, L1, L2, L3, L4, L5, L6, L9, L12, L36, L37, L40, L60, L61, L84, eq_f, e, bndI_id]
/-- HALVES of every kind -/
theorem hK {hc hm : Hp} {k i : Nat} {a x : Int32} (T : ThM hm k i a) {d : Nat} (hd : d ≤ 17) (m M : Nat) : Sim hc hm k (nI i) a (fun H => (SG_166 (m + 4)).2 (bodyOf (k * 4 + 2)) x (nI d) H) (fun H => SG_289 (M + 3) (nI k) x H) := by
  rcases (show k = 1 ∨ k = 2 ∨ k = 3 ∨ k = 4 ∨ k = 5 by have := T.2.1; have := T.2.2.1; omega) with rfl | rfl | rfl | rfl | rfl
  · exact (b12 T (show d ≤ 20 by omega) (m + 3) (M + 1)).eq (fun _ _ _ _ _ => rfl) (fun _ _ _ _ _ => ha_0 (Or.inl rfl))
  · exact (b12 T (show d ≤ 20 by omega) (m + 3) (M + 1)).eq (fun _ _ _ _ _ => rfl) (fun _ _ _ _ _ => ha_0 (Or.inr rfl))
  · exact (b12 T (show d ≤ 20 by omega) (m + 3) M).eq (fun _ _ _ _ _ => rfl) (fun _ _ _ _ _ => ha_3)
  · exact b40 T (show d ≤ 19 by omega) (m + 2) (M + 1)
  · exact b61 T hd m M
