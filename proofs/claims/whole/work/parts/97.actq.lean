/-! part 97: act -/
def mst (i : Nat) (H : Hp) : Hp := wr (wr (wr H 84 35 (nI 0)) 84 37 (nI 0)) 84 36 (nI i)
theorem mst_c {i x : Nat} {H : Hp} (h : x ≠ 84) : mst i H x = H x := by
  unfold mst
  rw [wr_c h, wr_c h, wr_c h]
theorem mst_k {i j : Nat} {H : Hp} (h1 : j ≠ 35) (h2 : j ≠ 36) (h3 : j ≠ 37) : mst i H 84 j = H 84 j := by
  unfold mst
  rw [wr_k h2, wr_k h3, wr_k h1]
theorem mst_M {i : Nat} {H : Hp} {tr : Nat → Int32} : AtM (mst i H) (mst i H) 0 tr false := by
  refine ⟨fun _ _ _ => rfl, fun _ _ _ => rfl, ?_, fun j hj => absurd hj (by omega), ?_⟩
  · unfold mst
    rw [wr_k (by decide), wr_k (by decide), wr_self]
  · unfold mst
    rw [wr_k (by decide), wr_self]
    rfl
theorem act_run {kd i : Nat} {a : Int32} {tr : Nat → Int32} {Hc0 : Hp} {f g : Hp → Option (Int32 × Hp)} (S : ∀ hm, ThM hm kd i a → Sim Hc0 hm kd (nI i) a f g) (hC : AtC Hc0 kd (nI i) a Hc0 0 tr false) (T : ∀ H : Hp, H 85 = Hc0 85 → ThM (mst i H) kd i a) : ∃ u v Hc' Hm c tr' p, f Hc0 = some (u, Hc') ∧ g (mst i Hc') = some (v, Hm) ∧ AtC Hc0 kd (nI i) a Hc' c tr' p ∧ AtM (mst i Hc') Hm c tr' p ∧ (p = false → u = v) := by
  obtain ⟨u1, v1, Hc1, Hm1, c1, tr1, p1, f1, g1, A1, B1, e1, -⟩ := S (mst i Hc0) (T Hc0 rfl) Hc0 (mst i Hc0) 0 tr false hC mst_M
  obtain ⟨u2, v2, Hc2, Hm2, c2, tr2, p2, f2, g2, A2, B2, e2, -⟩ := S (mst i Hc1) (T Hc1 (A1.1 85 (by decide) (by decide))) Hc0 (mst i Hc1) 0 tr false hC mst_M
  rw [f1] at f2
  have e := Option.some.inj f2
  have eu : u1 = u2 := congrArg Prod.fst e
  have eH : Hc1 = Hc2 := congrArg Prod.snd e
  subst eu eH
  exact ⟨u1, v2, Hc1, Hm2, c2, tr2, p2, f1, g2, A2, B2, e2⟩
theorem e101 : R_285_101 = R_285_86 := rfl
theorem e116 : R_285_116 = R_285_86 := rfl
theorem e126 : R_285_126 = R_285_86 := rfl
theorem act_g {hc : Hp} {kd i act : Nat} {a x : Int32} (ha : act ≤ 3) : ∃ g : Hp → Option (Int32 × Hp), (∀ hm, ThM hm kd i a → Sim hc hm kd (nI i) a (fun H => (SG_166 59).2 (bodyOf (kd * 4 + act)) x (nI 1) H) g) ∧ ∀ H, R_285_73 (nI act) x (nI kd) H = bndI (g H) R_285_86 := by
  rcases (show act = 0 ∨ act = 1 ∨ act = 2 ∨ act = 3 by omega) with rfl | rfl | rfl | rfl
  · exact ⟨fun H => SG_286 60 (nI kd) x H, fun hm T => eK T.2.2.2.1 T.2.1 T.2.2.1 (d := 1) (by omega) 57 57, fun H => by simp (disch := omega) only [R_285_73, R_285_79, S_286, gd_t, bI_, bV_, bR_, and_self, and_true, true_and, ↓reduceIte, eq_self, oj_84, bI_1, bI_0, L0, L1]⟩
  · exact ⟨fun H => SG_288 60 (nI kd) x H, fun hm T => sK T (d := 1) (by omega) 54 57, fun H => by simp (disch := omega) only [R_285_73, R_285_89, R_285_94, S_288, e101, gd_t, bI_, bV_, bR_, and_self, and_true, true_and, ↓reduceIte, eq_self, oj_84, bI_1, bI_0, L0, L1, eq_f]⟩
  · exact ⟨fun H => SG_289 60 (nI kd) x H, fun hm T => hK T (d := 1) (by omega) 55 57, fun H => by simp (disch := omega) only [R_285_73, R_285_89, R_285_104, R_285_109, S_289, e116, L2, gd_t, bI_, bV_, bR_, and_self, and_true, true_and, ↓reduceIte, eq_self, oj_84, bI_1, bI_0, L0, L1, eq_f]⟩
  · exact ⟨fun H => SG_290 60 (nI kd) x H, fun hm T => xK T (d := 1) (by omega) 51 57, fun H => by simp (disch := omega) only [R_285_73, R_285_89, R_285_104, R_285_119, S_290, e126, L2, gd_t, bI_, bV_, bR_, and_self, and_true, true_and, ↓reduceIte, eq_self, oj_84, bI_1, bI_0, L0, L1, eq_f]⟩
theorem p_act {v w u : Int32} : Pub (S_163 v w u) (S_285 v w u) := by
  intro h I
  obtain ⟨⟨s, m, C⟩, D⟩ := id I
  obtain ⟨so, mo, hs, hm, q, h4⟩ := id C
  have hn := so.1
  have D6 : ShlI h := D.2.2.2.2.2.1
  have BAD : ∀ (_ : S_163 v w u h = some (nI 0, wr h 61 1 (nI 0))) (_ : S_285 v w u (wr h 61 1 (nI 0)) = some (nI 0, wr (wr (wr h 61 1 (nI 0)) 84 35 (nI 0)) 84 37 (nI 0))), ∃ x h1 h2, S_163 v w u h = some (x, h1) ∧ S_285 v w u h1 = some (x, h2) ∧ Inv h2 := fun a b => ⟨nI 0, _, _, a, b, I.t (fun c c1 c2 c3 c4 => by rw [wr_c c3, wr_c c3, wr_c c1]) (fun j j1 j2 j3 => by rw [wr_k j3, wr_k j1, wr_c (by decide)]) ⟨0, by decide, by rw [wr_c (by decide), wr_c (by decide), wr_self], by rw [wr_k (by decide), wr_self], fun j hj => absurd hj (by omega)⟩⟩
  cases hr : rng 0 3 v with
  | false => exact BAD (by simp (disch := omega) only [R_163_23, R_163_46, R_163_90, R_163_48, R_163_33, R_163_30, R_163_25, R_163_20, R_163_14, R_163_11, R_163_7, R_163_0, S_163, R_164_0, S_164, gd_t, bI_, bV_, bR_, and_self, and_true, true_and, ↓reduceIte, eq_self, oj_84, bI_1, bI_0, L0, L1, L2, L3, L15, L35, L36, L37, L58, L59, L61, L84, L97, L98, s_158, hr]) (by simp (disch := omega) only [R_285_52, R_285_140, R_285_135, R_285_126, R_285_119, R_285_116, R_285_109, R_285_104, R_285_101, R_285_94, R_285_89, R_285_86, R_285_79, R_285_73, R_285_54, R_285_42, R_285_39, R_285_34, R_285_31, R_285_22, R_285_19, R_285_0, S_285, gd_t, bI_, bV_, bR_, and_self, and_true, true_and, ↓reduceIte, eq_self, oj_84, bI_1, bI_0, L0, L1, L2, L3, L15, L35, L36, L37, L58, L59, L61, L84, L97, L98, J0, J3, s_177r, hr])
  | true =>
    obtain ⟨t, -, ht, rfl⟩ := rng_t hr
    have ht4 : t < 4 := by omega
    cases hr2 : rng 0 3 w with
    | false => exact BAD (by simp (disch := omega) only [R_163_23, R_163_46, R_163_90, R_163_48, R_163_33, R_163_30, R_163_25, R_163_20, R_163_14, R_163_11, R_163_7, R_163_0, S_163, R_164_0, S_164, gd_t, bI_, bV_, bR_, and_self, and_true, true_and, ↓reduceIte, eq_self, oj_84, bI_1, bI_0, L0, L1, L2, L3, L15, L35, L36, L37, L58, L59, L61, L84, L97, L98, s_158, hr, s_11r, hr2, eq_f]) (by simp (disch := omega) only [R_285_52, R_285_140, R_285_135, R_285_126, R_285_119, R_285_116, R_285_109, R_285_104, R_285_101, R_285_94, R_285_89, R_285_86, R_285_79, R_285_73, R_285_54, R_285_42, R_285_39, R_285_34, R_285_31, R_285_22, R_285_19, R_285_0, S_285, gd_t, bI_, bV_, bR_, and_self, and_true, true_and, ↓reduceIte, eq_self, oj_84, bI_1, bI_0, L0, L1, L2, L3, L15, L35, L36, L37, L58, L59, L61, L84, L97, L98, J0, J3, s_177r, hr, hr2, eq_f])
    | true =>
      obtain ⟨act, -, ha, rfl⟩ := rng_t hr2
      obtain ⟨c, c2, q1, q2, q3, q4⟩ := D6 t ht4
      obtain ⟨k, hk⟩ : ∃ k, c ≠ 0 → k ≤ 5 ∧ h 59 t = nI k ∧ h 98 t = nI k := by
        by_cases c0 : c = 0
        · exact ⟨0, fun w => absurd c0 w⟩
        · obtain ⟨k, a⟩ := q3 c0
          exact ⟨k, fun _ => a⟩
      have g1 := s_162 (h := wr h 61 1 (nI 0)) (k := k) hn (by rw [wr_c (by decide)]; exact hs.1.n) ht4 c2 (by rw [wr_c (by decide)]; exact q1) (fun h0 => ⟨by rw [wr_c (by decide)]; exact (hk h0).2.1, (hk h0).1⟩)
      have g2 : ∀ H : Hp, H 85 = h 85 → H 97 = h 97 → H 98 = h 98 → S_284 (nI t) H = some (bI (decide (c = 0 ∨ c = 1 ∧ sN s ≤ k)), H) := fun H a1 a2 a3 => s_284 (k := k) hn (by rw [a1]; exact q.1.n) ht4 c2 (by rw [a2]; exact q2) (fun h0 => ⟨by rw [a3]; exact (hk h0).2.2, (hk h0).1⟩)
      have gb := g2 (wr (wr (wr h 61 1 (nI 0)) 84 35 (nI 0)) 84 37 (nI 0)) (by rw [wr_c (by decide), wr_c (by decide), wr_c (by decide)]) (by rw [wr_c (by decide), wr_c (by decide), wr_c (by decide)]) (by rw [wr_c (by decide), wr_c (by decide), wr_c (by decide)])
      by_cases cn : c = 0 ∨ c = 1 ∧ sN s ≤ k
      · rw [decide_eq_true cn] at g1 gb
        exact BAD (by simp (disch := omega) only [R_163_23, R_163_46, R_163_90, R_163_48, R_163_33, R_163_30, R_163_25, R_163_20, R_163_14, R_163_11, R_163_7, R_163_0, S_163, R_164_0, S_164, gd_t, bI_, bV_, bR_, and_self, and_true, true_and, ↓reduceIte, eq_self, oj_84, bI_1, bI_0, L0, L1, L2, L3, L15, L35, L36, L37, L58, L59, L61, L84, L97, L98, s_158, hr, s_11r, hr2, eq_f, g1]) (by simp (disch := omega) only [R_285_52, R_285_140, R_285_135, R_285_126, R_285_119, R_285_116, R_285_109, R_285_104, R_285_101, R_285_94, R_285_89, R_285_86, R_285_79, R_285_73, R_285_54, R_285_42, R_285_39, R_285_34, R_285_31, R_285_22, R_285_19, R_285_0, S_285, gd_t, bI_, bV_, bR_, and_self, and_true, true_and, ↓reduceIte, eq_self, oj_84, bI_1, bI_0, L0, L1, L2, L3, L15, L35, L36, L37, L58, L59, L61, L84, L97, L98, J0, J3, s_177r, hr, hr2, eq_f, gb])
      · by_cases cc : c = 2
        · rw [decide_eq_false cn] at g1 gb
          subst cc
          exact BAD (by simp (disch := omega) only [R_163_23, R_163_46, R_163_90, R_163_48, R_163_33, R_163_30, R_163_25, R_163_20, R_163_14, R_163_11, R_163_7, R_163_0, S_163, R_164_0, S_164, gd_t, bI_, bV_, bR_, and_self, and_true, true_and, ↓reduceIte, eq_self, oj_84, bI_1, bI_0, L0, L1, L2, L3, L15, L35, L36, L37, L58, L59, L61, L84, L97, L98, s_158, hr, s_11r, hr2, eq_f, g1, ia_58, ncl, wr_c, q1]) (by simp (disch := omega) only [R_285_52, R_285_140, R_285_135, R_285_126, R_285_119, R_285_116, R_285_109, R_285_104, R_285_101, R_285_94, R_285_89, R_285_86, R_285_79, R_285_73, R_285_54, R_285_42, R_285_39, R_285_34, R_285_31, R_285_22, R_285_19, R_285_0, S_285, gd_t, bI_, bV_, bR_, and_self, and_true, true_and, ↓reduceIte, eq_self, oj_84, bI_1, bI_0, L0, L1, L2, L3, L15, L35, L36, L37, L58, L59, L61, L84, L97, L98, J0, J3, s_177r, hr, hr2, eq_f, gb, ia_97, ncl, wr_c, q2])
        · have c1 : c = 1 := by omega
          subst c1
          rw [decide_eq_false cn] at g1
          have hkN : k < sN s := by omega
          have hkd := so.2.1 k hkN
          obtain ⟨k5, e59, e98⟩ := hk (by decide)
          have hmd := q.1.2.2.2.2.2.2.2 k hkN
          obtain ⟨Hc0, eH0⟩ : ∃ Hc0, Hc0 = wr (wr (wr (wr (wr h 61 1 (nI 0)) 61 2 (nI 0)) 61 3 (nI (sKind s k))) 61 4 (nI k)) 61 5 (nI (sPlace s k)) := ⟨_, rfl⟩
          have z0 : ∀ y, y ≠ 61 → Hc0 y = h y := fun y hy => by rw [eH0, wr_c hy, wr_c hy, wr_c hy, wr_c hy, wr_c hy]
          have hC : AtC Hc0 (sKind s k) (nI k) (nI (sPlace s k)) Hc0 0 (fun _ => nI 0) false := ⟨fun _ _ _ => rfl, by rw [eH0, wr_k (by decide), wr_k (by decide), wr_k (by decide), wr_k (by decide), wr_self], by decide, fun j hj => absurd hj (by omega), by rw [eH0, wr_k (by decide), wr_k (by decide), wr_k (by decide), wr_self]; rfl, by rw [eH0, wr_k (by decide), wr_k (by decide), wr_self], by rw [eH0, wr_k (by decide), wr_self], by rw [eH0, wr_self]⟩
          have T : ∀ H : Hp, H 85 = Hc0 85 → ThM (mst k H) (sKind s k) k (nI (sPlace s k)) := fun H e => ⟨by omega, hkd.1, hkd.2.1, by unfold mst; rw [wr_self], by rw [mst_c (by decide), e, z0 85 (by decide)]; exact hmd.1, by rw [mst_c (by decide), e, z0 85 (by decide)]; exact hmd.2.2.2.1⟩
          obtain ⟨g, S, hg⟩ := act_g (hc := Hc0) (kd := sKind s k) (i := k) (act := act) (a := nI (sPlace s k)) (x := u) ha
          obtain ⟨uu, vv, Hc, Hm, cc', tr, p, f1, r1, A, B, ea⟩ := act_run S hC T
          have zc : ∀ y, y ≠ 61 → y ≠ 62 → Hc y = h y := fun y y1 y2 => by rw [A.1 y y1 y2, z0 y y1]
          have fin : Inv Hm := by
            refine I.t (fun y y1 y2 y3 y4 => ?_) (fun j j1 j2 j3 => ?_) (TraI.fin A B ?_ ?_)
            · rw [B.1 y y3 y4, mst_c y3, zc y y1 y2]
            · rw [B.2.1 j j1 j3, mst_k j1 j2 j3, zc 84 (by decide) (by decide)]
            · rw [B.1 61 (by decide) (by decide), mst_c (by decide)]
            · rw [B.1 62 (by decide) (by decide), mst_c (by decide)]
          have e166 : S_166 (nI act) u (nI 0) Hc0 = some (uu, Hc) := (does_e hC hkd.2.1 ha 59 0).trans f1
          have gm := g2 (wr (wr Hc 84 35 (nI 0)) 84 37 (nI 0)) (by rw [wr_c (by decide), wr_c (by decide), zc 85 (by decide) (by decide)]) (by rw [wr_c (by decide), wr_c (by decide), zc 97 (by decide) (by decide)]) (by rw [wr_c (by decide), wr_c (by decide), zc 98 (by decide) (by decide)])
          rw [decide_eq_false cn] at gm
          have e97 : wr (wr Hc 84 35 (nI 0)) 84 37 (nI 0) 97 t = nI 1 := by rw [wr_c (by decide), wr_c (by decide), zc 97 (by decide) (by decide)]; exact q2
          have e98' : wr (wr Hc 84 35 (nI 0)) 84 37 (nI 0) 98 t = nI k := by rw [wr_c (by decide), wr_c (by decide), zc 98 (by decide) (by decide)]; exact e98
          have e182 : S_182 (nI k) (nI 0) (mst k Hc) = some (nI (sKind s k), mst k Hc) := (of_k (T Hc (A.1 85 (by decide) (by decide))) mst_M (tr := fun _ => nI 0)).2.1
          have em : ∀ y, R_285_73 (nI act) u (nI (sKind s k)) (mst k Hc) = y → S_285 (nI t) (nI act) u Hc = y := fun y hy => by
            rw [← hy]
            have e182' : S_182 (nI k) (nI 0) (wr (wr (wr Hc 84 35 (nI 0)) 84 37 (nI 0)) 84 36 (nI k)) = some (nI (sKind s k), mst k Hc) := e182
            simp (disch := omega) only [S_285, R_285_0, R_285_19, R_285_22, R_285_31, R_285_34, R_285_39, R_285_42, R_285_54, gd_t, bI_, bV_, bR_, and_self, and_true, true_and, ↓reduceIte, eq_self, oj_84, bI_1, bI_0, L0, L1, L2, L3, L15, L35, L36, L37, L84, L97, L98, J0, J3, s_177r, hr, hr2, eq_f, gm, ia_97, ia_98, ncl, e97, e98', wr_self, e182']
          have e58 : wr h 61 1 (nI 0) 58 t = nI 1 := by rw [wr_c (by decide)]; exact q1
          have e59' : wr h 61 1 (nI 0) 59 t = nI k := by rw [wr_c (by decide)]; exact e59
          have e2 : wr h 61 1 (nI 0) 2 k = nI (sKind s k) := by rw [wr_c (by decide)]; exact hs.1.kind hkN
          have e3 : wr h 61 1 (nI 0) 3 k = nI (sPlace s k) := by rw [wr_c (by decide)]; exact hs.1.place hkN
          have ec : ∀ y, R_165_29 uu Hc = some y → S_163 (nI t) (nI act) u h = some y := fun y hy => by
            have e165 : S_165 (nI (sKind s k)) (nI k) (nI (sPlace s k)) (nI act) u (wr h 61 1 (nI 0)) = some y := by
              rw [← hy]
              rw [eH0] at e166
              simp (disch := omega) only [S_165, R_165_0, gd_t, bI_, bV_, bR_, and_self, and_true, true_and, ↓reduceIte, eq_self, oj_84, bI_1, bI_0, L0, L1, e166]
            obtain ⟨y1, y2⟩ := y
            simp (disch := omega) only [R_163_23, R_163_46, R_163_90, R_163_48, R_163_33, R_163_30, R_163_25, R_163_20, R_163_14, R_163_11, R_163_7, R_163_0, S_163, R_164_0, S_164, gd_t, bI_, bV_, bR_, and_self, and_true, true_and, ↓reduceIte, eq_self, oj_84, bI_1, bI_0, L0, L1, L2, L3, L58, L59, L61, s_158, hr, s_11r, hr2, eq_f, g1, ia_58, ia_59, ia_2, ia_3, ncl, e58, e59', e2, e3, e165]
          have a2 := A.2.2.2.2.1
          have b5 := B.2.2.2.2
          have rg := hg (mst k Hc)
          rw [r1, bI_] at rg
          cases p with
          | false =>
            have euv := ea rfl
            subst euv
            exact ⟨uu, Hc, Hm, ec (uu, Hc) (by simp (disch := omega) only [R_165_29, R_165_43, gd_t, bI_, bV_, bR_, and_self, and_true, true_and, ↓reduceIte, eq_self, oj_84, bI_1, bI_0, L0, L1, a2]), em _ (by rw [rg]; simp (disch := omega) only [R_285_86, R_285_140, gd_t, bI_, bV_, bR_, and_self, and_true, true_and, ↓reduceIte, eq_self, oj_84, bI_1, bI_0, L0, L1, b5]), fin⟩
          | true =>
            exact ⟨-nI 15, Hc, Hm, ec (-nI 15, Hc) (by simp (disch := omega) only [R_165_29, R_165_38, gd_t, bI_, bV_, bR_, and_self, and_true, true_and, ↓reduceIte, eq_self, oj_84, bI_1, bI_0, L0, L1, L2, L3, L4, L5, L15, L35, L36, L37, L61, L84, L97, L98, a2, eq_f]), em _ (by rw [rg]; simp (disch := omega) only [R_285_86, R_285_135, gd_t, bI_, bV_, bR_, and_self, and_true, true_and, ↓reduceIte, eq_self, oj_84, bI_1, bI_0, L0, L1, L2, L3, L4, L5, L15, L35, L36, L37, L61, L84, L97, L98, b5, eq_f]), fin⟩
