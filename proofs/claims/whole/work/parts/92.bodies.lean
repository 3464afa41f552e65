/-! part 92: bodies of ENTERS -/
theorem bndI_id {f : Option (Int32 × Hp)} : bndI f (fun u H => some (u, H)) = f := by
  cases f <;> rfl
theorem b10 {hc hm : Hp} {k i : Nat} {a x : Int32} (h36 : hm 84 36 = nI i) {d : Nat} (hd : d ≤ 20) (m M : Nat) : Sim hc hm k (nI i) a (fun H => (SG_166 (m + 1)).2 (nI 10) x (nI d) H) (fun H => SG_286 (M + 1) (nI 0) x H) := by
  refine Sim.body (G := R_286_38 (SG_286 M) x) (by decide) hd (fun H => ?_) ?_
  · show R_286_0 (SG_286 M) (nI 0) x H = _
    simp (disch := omega) only [R_286_0, R_286_32, gd_t, bI_, bV_, bR_, and_self, and_true, true_and, ↓reduceIte, eq_self, oj_84, bI_1, bI_0, L0, L1, L2, L3, L6, L7, L9, L10, L20, L36, L50, L60, L84]
  · intro Hc Hm c tr p hC hM
    refine ⟨x * nI 6 + nI i, x * nI 6 + nI i, Hc, Hm, c, tr, p, ?_, ?_, hC, hM, fun _ => rfl, fun e => ⟨e, rfl, rfl⟩⟩
    · have e4 := hC.2.2.2.2.2.2.1
      simp (disch := omega) only [R_167_41, R_167_144, gd_t, bI_, bV_, bR_, and_self, and_true, true_and, ↓reduceIte, eq_self, oj_84, bI_1, bI_0, L0, L1, L2, L3, L4, L5, L6, L7, L10, L11, L12, L13, L20, L30, L40, L50, L51, L60, L61, L62, e4]
    · have e6 : Hm 84 36 = nI i := by rw [hM.2.1 36 (by decide) (by decide)]; exact h36
      simp (disch := omega) only [R_286_38, gd_t, bI_, bV_, bR_, and_self, and_true, true_and, ↓reduceIte, eq_self, oj_84, bI_1, bI_0, L0, L1, L2, L3, L6, L7, L9, L10, L20, L36, L50, L60, L84, e6]
theorem b20 {hc hm : Hp} {k i : Nat} {a x : Int32} (h36 : hm 84 36 = nI i) {d : Nat} (hd : d ≤ 19) (m M : Nat) : Sim hc hm k (nI i) a (fun H => (SG_166 (m + 2)).2 (nI 20) x (nI d) H) (fun H => SG_286 (M + 2) (nI 1) x H) := by
  refine Sim.body (m := m + 1) (G := R_286_54 (SG_286 (M + 1)) x) (by decide) (by omega) (fun H => ?_) ?_
  · show R_286_0 (SG_286 (M + 1)) (nI 1) x H = _
    simp (disch := omega) only [R_286_0, R_286_48, gd_t, bI_, bV_, bR_, and_self, and_true, true_and, ↓reduceIte, eq_self, oj_84, bI_1, bI_0, L0, L1, L2, L3, L6, L7, L9, L10, L20, L36, L50, L60, L84, eq_f]
  · refine ((b10 h36 (x := x) (d := d + 1) (by omega) m M).map (fun u => u ^^^ nI 10)).eq (fun H c tr p _ => ?_) (fun H c tr p _ => ?_)
    · simp (disch := omega) only [R_167_41, R_167_203, gd_t, bI_, bV_, bR_, and_self, and_true, true_and, ↓reduceIte, eq_self, oj_84, bI_1, bI_0, L0, L1, L2, L3, L4, L5, L6, L7, L10, L11, L12, L13, L20, L30, L40, L50, L51, L60, L61, L62, eq_f, nI_add]
      rfl
    · simp (disch := omega) only [R_286_54, gd_t, bI_, bV_, bR_, and_self, and_true, true_and, ↓reduceIte, eq_self, oj_84, bI_1, bI_0, L0, L1, L2, L3, L6, L7, L9, L10, L20, L36, L50, L60, L84]
      rfl
theorem e2_0 {x : Int32} {M : Nat} {H : Hp} : SG_286 (M + 2) (nI 2) x H = SG_286 (M + 1) (nI 0) x H := by
  show R_286_0 (SG_286 (M + 1)) (nI 2) x H = _
  have e : R_286_89 (SG_286 (M + 1)) = fun u H => some (u, H) := rfl
  simp (disch := omega) only [R_286_0, R_286_80, S_192, R_192_0, R_192_9, R_192_18, R_286_85, gd_t, bI_, bV_, bR_, and_self, and_true, true_and, ↓reduceIte, eq_self, oj_84, bI_1, bI_0, L0, L1, L2, L3, L4, L5, L6, L7, L9, L10, L20, L36, L50, L60, L84, eq_f, e, bndI_id]
theorem e4_0 {x : Int32} {M : Nat} {H : Hp} : SG_286 (M + 2) (nI 4) x H = SG_286 (M + 1) (nI 0) x H := by
  show R_286_0 (SG_286 (M + 1)) (nI 4) x H = _
  have e : R_286_89 (SG_286 (M + 1)) = fun u H => some (u, H) := rfl
  simp (disch := omega) only [R_286_0, R_286_80, S_192, R_192_0, R_192_9, R_192_18, R_286_85, gd_t, bI_, bV_, bR_, and_self, and_true, true_and, ↓reduceIte, eq_self, oj_84, bI_1, bI_0, L0, L1, L2, L3, L4, L5, L6, L7, L9, L10, L20, L36, L50, L60, L84, eq_f, e, bndI_id]
theorem e5_0 {x : Int32} {M : Nat} {H : Hp} : SG_286 (M + 3) (nI 5) x H = SG_286 (M + 1) (nI 0) x H := by
  rw [← e4_0]
  show R_286_0 (SG_286 (M + 2)) (nI 5) x H = _
  have e : R_286_89 (SG_286 (M + 2)) = fun u H => some (u, H) := rfl
  simp (disch := omega) only [R_286_0, R_286_80, S_192, R_192_0, R_192_9, R_192_14, R_286_85, gd_t, bI_, bV_, bR_, and_self, and_true, true_and, ↓reduceIte, eq_self, oj_84, bI_1, bI_0, L0, L1, L2, L3, L4, L5, L6, L7, L9, L10, L20, L36, L50, L60, L84, eq_f, e, bndI_id]
theorem b50 {hc hm : Hp} {k i : Nat} {a x : Int32} (h36 : hm 84 36 = nI i) {d : Nat} (hd : d ≤ 19) (m M : Nat) : Sim hc hm k (nI i) a (fun H => (SG_166 (m + 2)).2 (nI 50) x (nI d) H) (fun H => SG_286 (M + 3) (nI 3) x H) := by
  refine Sim.body (m := m + 1) (G := R_286_70 (SG_286 (M + 2)) x) (by decide) (by omega) (fun H => ?_) ?_
  · show R_286_0 (SG_286 (M + 2)) (nI 3) x H = _
    simp (disch := omega) only [R_286_0, R_286_64, gd_t, bI_, bV_, bR_, and_self, and_true, true_and, ↓reduceIte, eq_self, oj_84, bI_1, bI_0, L0, L1, L2, L3, L6, L7, L9, L10, L20, L36, L50, L60, L84, eq_f]
  · refine (b10 h36 (x := x + nI 7) (d := d + 1) (by omega) m M).eq (fun H c tr p _ => ?_) (fun H c tr p _ => ?_)
    · have e : R_167_253 (SG_166 (m + 1)).1 (SG_166 (m + 1)).2 = fun u H => some (u, H) := rfl
      simp (disch := omega) only [R_167_41, R_167_241, gd_t, bI_, bV_, bR_, and_self, and_true, true_and, ↓reduceIte, eq_self, oj_84, bI_1, bI_0, L0, L1, L2, L3, L4, L5, L6, L7, L10, L11, L12, L13, L20, L30, L40, L50, L51, L60, L61, L62, eq_f, nI_add, e, bndI_id]
    · have e : R_286_79 (SG_286 (M + 2)) = fun u H => some (u, H) := rfl
      simp (disch := omega) only [R_286_70, gd_t, bI_, bV_, bR_, and_self, and_true, true_and, ↓reduceIte, eq_self, oj_84, bI_1, bI_0, L0, L1, L2, L3, L6, L7, L9, L10, L20, L36, L50, L60, L84, e, bndI_id, e2_0]
/-- ENTERS of every kind -/
theorem eK {hc hm : Hp} {k i : Nat} {a x : Int32} (h36 : hm 84 36 = nI i) (hk : 1 ≤ k) (hk5 : k ≤ 5) {d : Nat} (hd : d ≤ 19) (m M : Nat) : Sim hc hm k (nI i) a (fun H => (SG_166 (m + 2)).2 (bodyOf (k * 4)) x (nI d) H) (fun H => SG_286 (M + 3) (nI k) x H) := by
  rcases (show k = 1 ∨ k = 2 ∨ k = 3 ∨ k = 4 ∨ k = 5 by omega) with rfl | rfl | rfl | rfl | rfl
  · exact b20 h36 hd m (M + 1)
  · exact (b10 h36 (show d ≤ 20 by omega) (m + 1) (M + 1)).eq (fun _ _ _ _ _ => rfl) (fun _ _ _ _ _ => e2_0)
  · exact b50 h36 hd m M
  · exact (b10 h36 (show d ≤ 20 by omega) (m + 1) (M + 1)).eq (fun _ _ _ _ _ => rfl) (fun _ _ _ _ _ => e4_0)
  · exact (b10 h36 (show d ≤ 20 by omega) (m + 1) M).eq (fun _ _ _ _ _ => rfl) (fun _ _ _ _ _ => e5_0)
theorem does_e {hc : Hp} {k act : Nat} {n a x : Int32} {H : Hp} {c : Nat} {tr : Nat → Int32} {p : Bool} (hC : AtC hc k n a H c tr p) (hk : k ≤ 5) (ha : act ≤ 3) (m d : Nat) : (SG_166 (m + 1)).1 (nI act) x (nI d) H = (SG_166 m).2 (bodyOf (k * 4 + act)) x (nI (d + 1)) H := by
  show R_166_0 (SG_166 m).1 (SG_166 m).2 (nI act) x (nI d) H = _
  have e3 := hC.2.2.2.2.2.1
  have e : R_166_20 (SG_166 m).1 (SG_166 m).2 = fun u H => some (u, H) := rfl
  have ev : vp_in (nI (k * 4 + act)) 24 = True := vpN (by omega) (by decide)
  have em : nI k * nI 4 = nI (k * 4) := nmul _ _
  simp (disch := omega) only [R_166_0, gd_t, bI_, bV_, bR_, and_self, and_true, true_and, ↓reduceIte, eq_self, oj_84, bI_1, bI_0, L0, L1, L3, L4, L24, L60, L61, e3, em, nI_add, ev, ncl, e, bndI_id]
