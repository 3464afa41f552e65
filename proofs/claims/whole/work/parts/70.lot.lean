/-! part 70: lot, times -/
def lotX (z : Int32) : Nat := z.toBitVec.toNat / 65536
theorem lotX_lt (z : Int32) : lotX z < 65536 := by
  have := z.toBitVec.isLt
  unfold lotX
  omega
theorem lot_ushr (z : Int32) : (z.toUInt32 >>> ((nI 16).toUInt32 &&& Int32.toUInt32 (nI 31))).toInt32 = nI (lotX z) := by
  have h := pk_ushr z (nI 16) 16 (by decide)
  have hl := lotX_lt z
  apply Int32.toBitVec_inj.mp
  apply BitVec.eq_of_toNat_eq
  rw [pk_tn (by omega)]
  exact h
def mZs (m : Mo) (z : Int32) : Mo := (mTruth m, mPretty m, mSet m, mNight m, mScore m, z)
def lotZ (z : Int32) : Int32 := z * nI 1103515245 + nI 12345
def lotA (s : Sg) (m : Mo) : Nat := lotX (lotZ (mSeed m)) % (sN s + 1)
def lotM (s : Sg) (m : Mo) : Mo := goM s (mZs m (lotZ (mSeed m))) (lotA s m)
def lotW (s : Sg) (m : Mo) : Nat := goW s (mZs m (lotZ (mSeed m))) (lotA s m)
theorem mZs_ok {s : Sg} {m : Mo} {z : Int32} (mo : MoOk s m) : MoOk s (mZs m z) := mo
theorem lotA_le (s : Sg) (m : Mo) : lotA s m ≤ sN s := by
  have := Nat.mod_lt (lotX (lotZ (mSeed m))) (show 0 < sN s + 1 by omega)
  unfold lotA
  omega
theorem MoAt.zs {h : Hp} {a : Nat} {s : Sg} {m : Mo} {z : Int32} (q : MoAt h a s m) : MoAt (wr h a 5 z) a s (mZs m z) := ⟨fun j hj => ⟨by rw [wr_c (by omega)]; exact q.truth hj, by rw [wr_c (by omega)]; exact q.pretty hj⟩, by rw [wr_k (by decide)]; exact q.set, by rw [wr_k (by decide)]; exact q.night, by rw [wr_k (by decide)]; exact q.score, by rw [wr_self]; rfl⟩
theorem SMd.zs {h : Hp} {s : Sg} {m : Mo} {z : Int32} (q : SMd h s m) : SMd (wr h 85 4 z) s (mZs m z) := by
  unfold SMd
  rw [wr_row]
  obtain ⟨⟨a0, a1, a2, a3, a4, a5, a6, a7⟩, qr⟩ := q
  refine ⟨⟨by rw [pk_un (by omega)]; exact a0, by rw [pk_un (by omega)]; exact a1, by rw [pk_un (by omega)]; exact a2, by rw [pk_un (by omega)]; exact a3, by rw [pk_us]; rfl, fun t ht => by rw [pk_un (by omega)]; exact a5 t ht, fun t ht => ⟨by rw [pk_un (by omega)]; exact (a6 t ht).1, by rw [pk_un (by omega)]; exact (a6 t ht).2⟩, fun j hj => ?_⟩, qr.congr (fun j hj => pk_un (by omega))⟩
  obtain ⟨b1, b2, b3, b4, b5⟩ := a7 j hj
  exact ⟨by rw [pk_un (by omega)]; exact b1, by rw [pk_un (by omega)]; exact b2, by rw [pk_un (by omega)]; exact b3, by rw [pk_un (by omega)]; exact b4, by rw [pk_un (by omega)]; exact b5⟩
theorem s_135 {h : Hp} {a : Nat} {s : Sg} {m : Mo} (hid : MoId a) (so : SgOk s) (mo : MoOk s m) (hs : SF h s) (hm : MoAt h a s m) : ∃ h', S_135 a h = some (nI (lotW s m), h') ∧ Same [12, a, a + 1, a + 2] h h' ∧ MoAt h' a s (lotM s m) := by
  have hn := so.1
  have h7 := hid.m7
  have hx := lotX_lt (lotZ (mSeed m))
  have hA := lotA_le s m
  have hs2 : SF (wr h a 5 (lotZ (mSeed m))) s := hs.w (by omega)
  obtain ⟨h2, g2, s2, m2⟩ := s_81 hid so (mZs_ok mo) hs2 (hm.zs (z := lotZ (mSeed m))) (act := lotA s m) (by omega)
  have e1 : (wr h a 5 (lotZ (mSeed m))) 1 7 = nI (sN s) := hs2.1.n
  have eA : nI (lotX (lotZ (mSeed m)) % (sN s + 1)) = nI (lotA s m) := rfl
  have eZ : mSeed m * nI 1103515245 + nI 12345 = lotZ (mSeed m) := rfl
  refine ⟨h2, ?_, (Same.rf.wr (by simp)).tr s2, m2⟩
  simp (disch := omega) only [R_135_34, R_135_0, S_135, gd_t, bI_, bV_, bR_, and_self, and_true, true_and, ↓reduceIte, eq_self, oj_84, bI_1, bI_0, L0, L1, L3, L5, L7, L16, L31, L12345, L1103515245, not_false_eq_true, hid.1, hm.seed, eZ, wr_s, e1, lot_ushr, nI_add, eq_f, nrem, eA, g2]
  rfl
theorem s_269 {h : Hp} {s : Sg} {m : Mo} (so : SgOk s) (mo : MoOk s m) (q : SMd h s m) : ∃ h', S_269 h = some (nI (lotW s m), h') ∧ SMd h' s (lotM s m) ∧ MFr h h' := by
  have hn := so.1
  have hx := lotX_lt (lotZ (mSeed m))
  have hA := lotA_le s m
  obtain ⟨h2, g2, q2, f2⟩ := s_226 so (mZs_ok mo) (q.zs (z := lotZ (mSeed m))) (act := lotA s m) hA
  have e1 : (wr h 85 4 (lotZ (mSeed m))) 85 0 = nI (sN s) := (q.zs (z := lotZ (mSeed m))).1.n
  have e4 : h 85 4 = mSeed m := q.1.seed
  have eA : nI (lotX (lotZ (mSeed m)) % (sN s + 1)) = nI (lotA s m) := rfl
  have eZ : mSeed m * nI 1103515245 + nI 12345 = lotZ (mSeed m) := rfl
  refine ⟨h2, ?_, q2, (MFr.rf.wr (by omega)).tr f2⟩
  simp (disch := omega) only [R_269_42, R_269_0, S_269, gd_t, bI_, bV_, bR_, and_self, and_true, true_and, ↓reduceIte, eq_self, oj_84, bI_1, bI_0, L0, L1, L4, L16, L31, L85, L12345, L1103515245, not_false_eq_true, ncl, ia_85, e4, eZ, wr_s, e1, lot_ushr, nI_add, eq_f, nrem, eA, g2]
  rfl
theorem mZs_night {m : Mo} {z : Int32} : mNight (mZs m z) = mNight m := rfl
theorem mZs_score {m : Mo} {z : Int32} : mScore (mZs m z) = mScore m := rfl
theorem goZ_ok {s : Sg} {m : Mo} {z : Int32} {a : Nat} (mo : MoOk s m) (hn : mNight m < 16) : MoOk s (goM s (mZs m z) a) := goOk (m := mZs m z) mo hn
theorem goZ_night {s : Sg} {m : Mo} {z : Int32} {a : Nat} (mo : MoOk s m) : mNight (goM s (mZs m z) a) = mNight m + 1 := goM_night (m := mZs m z) mo
theorem goZ_score {s : Sg} {m : Mo} {z : Int32} {a : Nat} (mo : MoOk s m) : mScore (goM s (mZs m z) a) = mScore m + nI (goW s (mZs m z) a) := goM_score (m := mZs m z) mo
theorem goZ_le {s : Sg} {m : Mo} {z : Int32} {a : Nat} (so : SgOk s) (mo : MoOk s m) : goW s (mZs m z) a ≤ 453 := goW_le (m := mZs m z) so mo
theorem lotM_eq (s : Sg) (m : Mo) : lotM s m = goM s (mZs m (lotZ (mSeed m))) (lotA s m) := rfl
theorem lotW_eq (s : Sg) (m : Mo) : lotW s m = goW s (mZs m (lotZ (mSeed m))) (lotA s m) := rfl
theorem lotM_ok {s : Sg} {m : Mo} (mo : MoOk s m) (hn : mNight m < 16) : MoOk s (lotM s m) := by
  rw [lotM_eq]
  exact goZ_ok mo hn
theorem lotM_night {s : Sg} {m : Mo} (mo : MoOk s m) : mNight (lotM s m) = mNight m + 1 := by
  rw [lotM_eq]
  exact goZ_night mo
theorem lotM_score {s : Sg} {m : Mo} (mo : MoOk s m) : mScore (lotM s m) = mScore m + nI (lotW s m) := by
  rw [lotM_eq, lotW_eq]
  exact goZ_score mo
theorem lotW_le {s : Sg} {m : Mo} (so : SgOk s) (mo : MoOk s m) : lotW s m ≤ 453 := by
  rw [lotW_eq]
  exact goZ_le so mo
theorem p_lot : Pub S_134 S_268 := by
  intro h I
  obtain ⟨⟨s, m, C⟩, D⟩ := id I
  obtain ⟨so, mo, hs, hm, q, h4⟩ := id C
  have hn := so.1
  have he := so.2.2.2.2.2
  by_cases c : sEnd s ≤ mNight m
  · exact ⟨-nI 4, h, h, by simp (disch := omega) only [R_134_30, R_134_19, R_134_14, R_134_11, R_134_0, S_134, gd_t, bI_, bV_, bR_, and_self, and_true, true_and, ↓reduceIte, eq_self, oj_84, bI_1, bI_0, L0, L1, L4, L13, le_t, le_f, lt_t, lt_f, eq_t, eq_f, ncl, nI_add, nmul, nsub, ndiv, nrem, nrem', nrN, s_38 mo13 so mo hs.1 hm, c, decide_true], by simp (disch := omega) only [R_268_16, R_268_12, R_268_7, R_268_4, R_268_0, S_268, gd_t, bI_, bV_, bR_, and_self, and_true, true_and, ↓reduceIte, eq_self, oj_84, bI_1, bI_0, L0, L1, L4, L13, le_t, le_f, lt_t, lt_f, eq_t, eq_f, ncl, nI_add, nmul, nsub, ndiv, nrem, nrem', nrN, s_205 so mo q.1, c, decide_true], I⟩
  · obtain ⟨h1, g1, s1, hm1⟩ := s_135 mo13 so mo hs hm
    have q1 : SMd h1 s m := q.same_c (s1 85 (by decide))
    obtain ⟨h2, g2, q2, f2⟩ := s_269 so mo q1
    refine ⟨nI (lotW s m), h1, h2, ?_, ?_, Inv.step C D (lotM_ok mo (by omega)) s1 hm1 f2 q2⟩
    · simp (disch := omega) only [R_134_30, R_134_19, R_134_14, R_134_11, R_134_0, S_134, gd_t, bI_, bV_, bR_, and_self, and_true, true_and, ↓reduceIte, eq_self, oj_84, bI_1, bI_0, L0, L1, L4, L13, le_t, le_f, lt_t, lt_f, eq_t, eq_f, ncl, nI_add, nmul, nsub, ndiv, nrem, nrem', nrN, s_38 mo13 so mo hs.1 hm, c, decide_false, g1]
    · simp (disch := omega) only [R_268_16, R_268_12, R_268_7, R_268_4, R_268_0, S_268, gd_t, bI_, bV_, bR_, and_self, and_true, true_and, ↓reduceIte, eq_self, oj_84, bI_1, bI_0, L0, L1, L4, le_t, le_f, lt_t, lt_f, eq_t, eq_f, ncl, nI_add, nmul, nsub, ndiv, nrem, nrem', nrN, s_205 so mo q1.1, c, decide_false, g2]
def lotN (s : Sg) : Nat → Mo → Mo
  | 0, m => m
  | f + 1, m => if sEnd s ≤ mNight m then m else lotN s f (lotM s m)
def lotNW (s : Sg) : Nat → Mo → Nat
  | 0, _ => 0
  | f + 1, m => if sEnd s ≤ mNight m then 0 else lotW s m + lotNW s f (lotM s m)
theorem lotN_s (s : Sg) (f : Nat) (m : Mo) : lotN s (f + 1) m = if sEnd s ≤ mNight m then m else lotN s f (lotM s m) := rfl
theorem lotNW_s (s : Sg) (f : Nat) (m : Mo) : lotNW s (f + 1) m = if sEnd s ≤ mNight m then 0 else lotW s m + lotNW s f (lotM s m) := rfl
theorem lotNW_le {s : Sg} (so : SgOk s) : ∀ (f : Nat) (m : Mo), MoOk s m → lotNW s f m ≤ 453 * f
  | 0, _, _ => Nat.zero_le _
  | f + 1, m, mo => by
    rw [lotNW_s]
    split
    · omega
    · have he := so.2.2.2.2.2
      have h1 := lotW_le so mo
      have h2 := lotNW_le so f (lotM s m) (lotM_ok mo (by omega))
      omega
theorem lotN_score {s : Sg} (so : SgOk s) : ∀ (f : Nat) (m : Mo), MoOk s m → mScore (lotN s f m) = mScore m + nI (lotNW s f m)
  | 0, m, _ => by
    show mScore m = mScore m + 0
    rw [Int32.add_zero]
  | f + 1, m, mo => by
    rw [lotN_s, lotNW_s]
    split
    · show mScore m = mScore m + 0
      rw [Int32.add_zero]
    · have he := so.2.2.2.2.2
      rw [lotN_score so f (lotM s m) (lotM_ok mo (by omega)), lotM_score mo, Int32.add_assoc, nI_add]
def timC (s : Sg) (m : Mo) (v : Nat) : Nat → Int32 → Nat → Nat
  | 0, _, c => c
  | n + 1, z, c => timC s m v n (mSeed (lotN s (sEnd s - mNight m) (mZs m z))) (if v ≤ lotNW s (sEnd s - mNight m) (mZs m z) then c + 1 else c)
theorem timC_s (s : Sg) (m : Mo) (v n : Nat) (z : Int32) (c : Nat) : timC s m v (n + 1) z c = timC s m v n (mSeed (lotN s (sEnd s - mNight m) (mZs m z))) (if v ≤ lotNW s (sEnd s - mNight m) (mZs m z) then c + 1 else c) := rfl
theorem s_137 {h : Hp} {s : Sg} {m : Mo} (so : SgOk s) (mo : MoOk s m) (hs : SF h s) (hm : MoAt h 13 s m) {n v : Nat} (hn : n ≤ 40) (hv : v ≤ 999) : ∃ h', S_137 (nI n) (nI v) h = some (nI (timC s m v n (mSeed m) 0), h') ∧ Same [12, 35, 36, 37] h h' := by
  have he := so.2.2.2.2.2
  have inner : ∀ (rec : Int32 → Int32 → Int32 → Int32 → Int32 → Hp → Option (Int32 × Hp)) (c k : Nat) (f t fu : Nat) (m1 : Mo) (H : Hp), f < fu → f = sEnd s - mNight m1 → t + f ≤ 16 → MoOk s m1 → MoAt H 35 s m1 → Same [12, 35, 36, 37] h H → ∃ h', H_137_36 rec fu (nI n) (nI v) (nI c) (nI k) 35 (nI t) H = R_137_71 rec (nI n) (nI v) (nI c) (nI k) 35 h' ∧ Same [12, 35, 36, 37] h h' ∧ MoAt h' 35 s (lotN s f m1) := by
    intro rec c k f
    induction f with
    | zero =>
      intro t fu m1 H hf hff ht o1 hm1 sH
      obtain ⟨fu, rfl⟩ : ∃ p, fu = p + 1 := ⟨fu - 1, by omega⟩
      have hsH : SF H s := hs.same sH (by simp)
      have c0 : sEnd s ≤ mNight m1 := by omega
      refine ⟨H, ?_, sH, hm1⟩
      by_cases c2 : 16 ≤ t
      · simp (disch := omega) only [H_137_36, R_137_36, gd_t, bI_, bV_, bR_, and_self, and_true, true_and, ↓reduceIte, eq_self, oj_84, bI_1, bI_0, L0, L1, L3, L4, L5, L13, L16, le_t, le_f, lt_t, lt_f, eq_t, eq_f, ncl, nI_add, nmul, nsub, ndiv, nrem, nrem', nrN, c2]
      · simp (disch := omega) only [H_137_36, R_137_36, R_137_43, R_137_52, gd_t, bI_, bV_, bR_, and_self, and_true, true_and, ↓reduceIte, eq_self, oj_84, bI_1, bI_0, L0, L1, L3, L4, L5, L13, L16, le_t, le_f, lt_t, lt_f, eq_t, eq_f, ncl, nI_add, nmul, nsub, ndiv, nrem, nrem', nrN, c2, s_38 mo35 so o1 hsH.1 hm1, c0, decide_true]
    | succ f ih =>
      intro t fu m1 H hf hff ht o1 hm1 sH
      obtain ⟨fu, rfl⟩ : ∃ p, fu = p + 1 := ⟨fu - 1, by omega⟩
      have hsH : SF H s := hs.same sH (by simp)
      have c0 : ¬ sEnd s ≤ mNight m1 := by omega
      rw [lotN_s, if_neg c0]
      obtain ⟨h2, g2, s2, hm2⟩ := s_135 mo35 so o1 hsH hm1
      have hnt := lotM_night o1
      obtain ⟨h3, g3, s3, hm3⟩ := ih (t + 1) fu _ h2 (by omega) (by omega) (by omega) (lotM_ok o1 (by omega)) hm2 (sH.tr s2)
      refine ⟨h3, ?_, s3, hm3⟩
      simp (disch := omega) only [H_137_36, R_137_36, R_137_43, R_137_52, R_137_55, R_137_64, gd_t, bI_, bV_, bR_, and_self, and_true, true_and, ↓reduceIte, eq_self, oj_84, bI_1, bI_0, L0, L1, L3, L4, L5, L13, L16, le_t, le_f, lt_t, lt_f, eq_t, eq_f, ncl, nI_add, nmul, nsub, ndiv, nrem, nrem', nrN, s_38 mo35 so o1 hsH.1 hm1, c0, decide_false, g2]
      exact g3
  have loop : ∀ (j k c fu : Nat) (z : Int32) (H : Hp), j < fu → k + j = n → Same [12, 35, 36, 37] h H → ∃ h', H_137_14 fu (nI n) (nI v) (nI c) z (nI k) H = some (nI (timC s m v j z c), h') ∧ Same [12, 35, 36, 37] h h' := by
    intro j
    induction j with
    | zero =>
      intro k c fu z H hf hk sH
      obtain ⟨fu, rfl⟩ : ∃ p, fu = p + 1 := ⟨fu - 1, by omega⟩
      have ek : k = n := by omega
      refine ⟨H, ?_, sH⟩
      simp (disch := omega) only [H_137_36, H_137_14, R_137_14, R_137_104, gd_t, bI_, bV_, bR_, and_self, and_true, true_and, ↓reduceIte, eq_self, oj_84, bI_1, bI_0, L0, L1, L3, L4, L5, L13, L16, le_t, le_f, lt_t, lt_f, eq_t, eq_f, ncl, nI_add, nmul, nsub, ndiv, nrem, nrem', nrN, ek]
      rfl
    | succ j ih =>
      intro k c fu z H hf hk sH
      obtain ⟨fu, rfl⟩ : ∃ p, fu = p + 1 := ⟨fu - 1, by omega⟩
      have hm13 : MoAt H 13 s m := hm.congr (sH _ (by decide)) (sH _ (by decide)) (sH _ (by decide))
      obtain ⟨h1, g1, s1, hm1⟩ := s_87 so hm13
      have s1' : Same [12, 35, 36, 37] h (wr h1 35 5 z) := (sH.tr (s1.le (by simp))).wr (by simp)
      obtain ⟨h2, g2, s2, hm2⟩ := inner (H_137_14 fu) c k (sEnd s - mNight m) 0 fuL (mZs m z) _ (fuL_gt (by omega)) rfl (by omega) (mZs_ok mo) (hm1.zs (z := z)) s1'
      have eS : h2 35 4 = mScore m + nI (lotNW s (sEnd s - mNight m) (mZs m z)) := by rw [hm2.score, lotN_score so _ _ (mZs_ok mo)]; rfl
      have e13 : h2 13 4 = mScore m := by rw [s2 13 (by decide)]; exact hm.score
      have hW := lotNW_le so (sEnd s - mNight m) (mZs m z) (mZs_ok mo)
      rw [timC_s]
      generalize hz : mSeed (lotN s (sEnd s - mNight m) (mZs m z)) = z2
      have e5 : h2 35 5 = z2 := by rw [hm2.seed, hz]
      generalize lotNW s (sEnd s - mNight m) (mZs m z) = W at eS hW ⊢
      by_cases cv : v ≤ W
      · rw [if_pos cv]
        obtain ⟨h3, g3, s3⟩ := ih (k + 1) (c + 1) fu z2 h2 (by omega) (by omega) s2
        refine ⟨h3, ?_, s3⟩
        simp (disch := omega) only [H_137_14, R_137_14, R_137_20, R_137_24, gd_t, bI_, bV_, bR_, and_self, and_true, true_and, ↓reduceIte, eq_self, oj_84, bI_1, bI_0, L0, L1, L3, L4, L5, L13, L16, le_t, le_f, lt_t, lt_f, eq_t, eq_f, ncl, nI_add, nmul, nsub, ndiv, nrem, nrem', nrN, g1, oj_35, g2, R_137_71, eS, e13, sub_l, R_137_95, R_137_98, e5]
        exact g3
      · rw [if_neg cv]
        obtain ⟨h3, g3, s3⟩ := ih (k + 1) c fu z2 h2 (by omega) (by omega) s2
        refine ⟨h3, ?_, s3⟩
        simp (disch := omega) only [H_137_14, R_137_14, R_137_20, R_137_24, gd_t, bI_, bV_, bR_, and_self, and_true, true_and, ↓reduceIte, eq_self, oj_84, bI_1, bI_0, L0, L1, L3, L4, L5, L13, L16, le_t, le_f, lt_t, lt_f, eq_t, eq_f, ncl, nI_add, nmul, nsub, ndiv, nrem, nrem', nrN, g1, oj_35, g2, R_137_71, eS, e13, sub_l, R_137_95, R_137_98, e5]
        exact g3
  obtain ⟨h1, g1, s1⟩ := loop n 0 0 fuL (mSeed m) h (fuL_gt (by omega)) (by omega) Same.rf
  refine ⟨h1, ?_, s1⟩
  simp (disch := omega) only [S_137, R_137_0, gd_t, bI_, bV_, bR_, and_self, and_true, true_and, ↓reduceIte, eq_self, oj_84, bI_1, bI_0, L0, L1, L3, L4, L5, L13, L16, le_t, le_f, lt_t, lt_f, eq_t, eq_f, ncl, nI_add, nmul, nsub, ndiv, nrem, nrem', nrN, hm.seed]
  exact g1
theorem m_270 {h : Hp} {s : Sg} {m : Mo} (so : SgOk s) (mo : MoOk s m) (q : SMd h s m) (h4 : h 84 4 = nI 0) {n v : Nat} (hn1 : 1 ≤ n) (hn : n ≤ 40) (hv : v ≤ 999) : ∃ h', S_270 (nI n) (nI v) h = some (nI (timC s m v n (mSeed m) 0), h') ∧ Agr h h' := by
  have he := so.2.2.2.2.2
  obtain ⟨h1, g1, b1, e85, x1⟩ := s_229 (by decide) h4
  have inner : ∀ (rec : Int32 → Int32 → Int32 → Int32 → Hp → Option (Int32 × Hp)) (c k : Nat) (f acc fu : Nat) (m1 : Mo) (H : Hp), f < fu → f = sEnd s - mNight m1 → MoOk s m1 → SMd H s m1 → Brk 0 h H → (∀ j, j ≠ 4 → H 84 j = h 84 j) → ∃ h', H_270_44 rec fu (nI n) (nI v) (nI c) (nI k) (nI acc) H = R_270_63 rec (nI n) (nI v) (nI c) (nI k) (nI (acc + lotNW s f m1)) h' ∧ SMd h' s (lotN s f m1) ∧ Brk 0 h h' ∧ ∀ j, j ≠ 4 → h' 84 j = h 84 j := by
    intro rec c k f
    induction f with
    | zero =>
      intro acc fu m1 H hf hff o1 qH bH xH
      obtain ⟨fu, rfl⟩ : ∃ p, fu = p + 1 := ⟨fu - 1, by omega⟩
      have c0 : sEnd s ≤ mNight m1 := by omega
      refine ⟨H, ?_, qH, bH, xH⟩
      simp (disch := omega) only [H_270_44, R_270_44, R_270_48, gd_t, bI_, bV_, bR_, and_self, and_true, true_and, ↓reduceIte, eq_self, oj_84, bI_1, bI_0, L0, L1, L4, L40, L85, L999, le_t, le_f, lt_t, lt_f, eq_t, eq_f, ncl, nI_add, nmul, nsub, ndiv, nrem, nrem', nrN, s_205 so o1 qH.1, c0, decide_true]
      rfl
    | succ f ih =>
      intro acc fu m1 H hf hff o1 qH bH xH
      obtain ⟨fu, rfl⟩ : ∃ p, fu = p + 1 := ⟨fu - 1, by omega⟩
      have c0 : ¬ sEnd s ≤ mNight m1 := by omega
      rw [lotN_s, if_neg c0, lotNW_s, if_neg c0]
      obtain ⟨h2, g2, q2, f2⟩ := s_269 so o1 qH
      have hnt := lotM_night o1
      obtain ⟨h3, g3, q3, b3, x3⟩ := ih (acc + lotW s m1) fu _ h2 (by omega) (by omega) (lotM_ok o1 (by omega)) q2 (bH.mfr f2) (fun j hj => by rw [f2.1 84 (by decide) (by decide)]; exact xH j hj)
      refine ⟨h3, ?_, q3, b3, x3⟩
      rw [Nat.add_assoc] at g3
      simp (disch := omega) only [H_270_44, R_270_44, R_270_48, R_270_51, R_270_57, gd_t, bI_, bV_, bR_, and_self, and_true, true_and, ↓reduceIte, eq_self, oj_84, bI_1, bI_0, L0, L1, L4, L40, L85, L999, le_t, le_f, lt_t, lt_f, eq_t, eq_f, ncl, nI_add, nmul, nsub, ndiv, nrem, nrem', nrN, s_205 so o1 qH.1, c0, decide_false, g2]
      exact g3
  have loop : ∀ (j k c fu : Nat) (z : Int32) (H : Hp), j < fu → k + j = n → SMd H s (mZs m z) → Brk 0 h H → (∀ j, j ≠ 4 → H 84 j = h 84 j) → ∃ h', H_270_35 fu (nI n) (nI v) (nI c) (nI k) H = some (nI (timC s m v j z c), h') ∧ Agr h h' := by
    intro j
    induction j with
    | zero =>
      intro k c fu z H hf hk qH bH xH
      obtain ⟨fu, rfl⟩ : ∃ p, fu = p + 1 := ⟨fu - 1, by omega⟩
      have ek : k = n := by omega
      obtain ⟨h3, g3, b3, x3⟩ := s_231 (by decide) h4 bH
      refine ⟨h3, ?_, Agr.ofM (l := []) b3 (fun j _ hj => by rw [x3 j hj, xH j hj]) (fun j hj => by simp at hj)⟩
      simp (disch := omega) only [H_270_44, H_270_35, R_270_35, R_270_103, R_270_107, gd_t, bI_, bV_, bR_, and_self, and_true, true_and, ↓reduceIte, eq_self, oj_84, bI_1, bI_0, L0, L1, L4, L40, L85, L999, le_t, le_f, lt_t, lt_f, eq_t, eq_f, ncl, nI_add, nmul, nsub, ndiv, nrem, nrem', nrN, ek, g3]
      rfl
    | succ j ih =>
      intro k c fu z H hf hk qH bH xH
      obtain ⟨fu, rfl⟩ : ∃ p, fu = p + 1 := ⟨fu - 1, by omega⟩
      obtain ⟨h2, g2, q2, b2, x2⟩ := inner (H_270_35 fu) c k (sEnd s - mNight m) 0 fuL (mZs m z) H (fuL_gt (by omega)) rfl (mZs_ok mo) qH bH xH
      rw [Nat.zero_add] at g2
      have hW := lotNW_le so (sEnd s - mNight m) (mZs m z) (mZs_ok mo)
      rw [timC_s]
      generalize hz : mSeed (lotN s (sEnd s - mNight m) (mZs m z)) = z2
      have e4 : h2 85 4 = z2 := by rw [q2.1.seed, hz]
      obtain ⟨h5, g5, b5, e5, s5⟩ := s_232 (by decide) b2
      have q5 : SMd (wr h5 85 4 z2) s (mZs m z2) := SMd.zs (q.same_c e5)
      have b6 : Brk 0 h (wr h5 85 4 z2) := b5.w85 (by decide)
      have x6 : ∀ j, j ≠ 4 → (wr h5 85 4 z2) 84 j = h 84 j := fun j hj => by rw [wr_c (by decide), s5 84 (by decide)]; exact x2 j hj
      generalize lotNW s (sEnd s - mNight m) (mZs m z) = W at g2 hW ⊢
      by_cases cv : v ≤ W
      · rw [if_pos cv]
        obtain ⟨h3, g3, s3⟩ := ih (k + 1) (c + 1) fu z2 _ (by omega) (by omega) q5 b6 x6
        refine ⟨h3, ?_, s3⟩
        simp (disch := omega) only [H_270_35, R_270_35, R_270_41, gd_t, bI_, bV_, bR_, and_self, and_true, true_and, ↓reduceIte, eq_self, oj_84, bI_1, bI_0, L0, L1, L4, L40, L85, L999, le_t, le_f, lt_t, lt_f, eq_t, eq_f, ncl, nI_add, nmul, nsub, ndiv, nrem, nrem', nrN, g2, R_270_63, R_270_70, R_270_74, R_270_89, g5, e4, ia_85]
        exact g3
      · rw [if_neg cv]
        obtain ⟨h3, g3, s3⟩ := ih (k + 1) c fu z2 _ (by omega) (by omega) q5 b6 x6
        refine ⟨h3, ?_, s3⟩
        simp (disch := omega) only [H_270_35, R_270_35, R_270_41, gd_t, bI_, bV_, bR_, and_self, and_true, true_and, ↓reduceIte, eq_self, oj_84, bI_1, bI_0, L0, L1, L4, L40, L85, L999, le_t, le_f, lt_t, lt_f, eq_t, eq_f, ncl, nI_add, nmul, nsub, ndiv, nrem, nrem', nrN, g2, R_270_63, R_270_70, R_270_74, R_270_89, g5, e4, ia_85, Nat.add_zero]
        exact g3
  obtain ⟨h3, g3, a3⟩ := loop n 0 0 fuL (mSeed m) h1 (fuL_gt (by omega)) (by omega) (q.same_c e85) b1 x1
  refine ⟨h3, ?_, a3⟩
  simp (disch := omega) only [S_270, R_270_0, R_270_9, R_270_12, R_270_21, R_270_26, R_270_30, gd_t, bI_, bV_, bR_, and_self, and_true, true_and, ↓reduceIte, eq_self, oj_84, bI_1, bI_0, L0, L1, L4, L40, L85, L999, J1, J40, J0, J999, s_177r, rng_n, g1, eq_f]
  exact g3
theorem p_times {v w : Int32} : Pub (S_136 v w) (S_270 v w) := by
  intro h I
  obtain ⟨⟨s, m, C⟩, D⟩ := id I
  obtain ⟨so, mo, hs, hm, q, h4⟩ := id C
  cases hr : rng 1 40 v with
  | false => exact ⟨-nI 1, h, h, by simp (disch := omega) only [R_136_21, R_136_32, R_136_23, R_136_18, R_136_10, R_136_7, R_136_0, S_136, gd_t, bI_, bV_, bR_, and_self, and_true, true_and, ↓reduceIte, eq_self, oj_84, bI_1, bI_0, L0, L1, L4, L40, L85, L999, s_11r, hr], by simp (disch := omega) only [R_270_24, R_270_107, R_270_103, R_270_89, R_270_74, R_270_70, R_270_63, R_270_57, R_270_51, R_270_48, R_270_44, R_270_41, R_270_35, R_270_30, R_270_26, R_270_21, R_270_12, R_270_9, R_270_0, S_270, gd_t, bI_, bV_, bR_, and_self, and_true, true_and, ↓reduceIte, eq_self, oj_84, bI_1, bI_0, L0, L1, L4, L40, L85, L999, J1, J40, s_177r, hr], I⟩
  | true =>
    cases hr2 : rng 0 999 w with
    | false => exact ⟨-nI 1, h, h, by simp (disch := omega) only [R_136_21, R_136_32, R_136_23, R_136_18, R_136_10, R_136_7, R_136_0, S_136, gd_t, bI_, bV_, bR_, and_self, and_true, true_and, ↓reduceIte, eq_self, oj_84, bI_1, bI_0, L0, L1, L4, L40, L85, L999, s_11r, hr, hr2, eq_f], by simp (disch := omega) only [R_270_24, R_270_107, R_270_103, R_270_89, R_270_74, R_270_70, R_270_63, R_270_57, R_270_51, R_270_48, R_270_44, R_270_41, R_270_35, R_270_30, R_270_26, R_270_21, R_270_12, R_270_9, R_270_0, S_270, gd_t, bI_, bV_, bR_, and_self, and_true, true_and, ↓reduceIte, eq_self, oj_84, bI_1, bI_0, L0, L1, L4, L40, L85, L999, J1, J40, J0, J999, s_177r, hr, hr2, eq_f], I⟩
    | true =>
      obtain ⟨n, hn1, hn, rfl⟩ := rng_t hr
      obtain ⟨x, -, hx, rfl⟩ := rng_t hr2
      obtain ⟨h1, g1, s1⟩ := s_137 so mo hs hm hn hx
      have a1 : Agr h h1 := Agr.ofC (s1.le (by decide))
      obtain ⟨-, -, -, -, q1, h41⟩ := C.agr a1
      obtain ⟨h2, g2, a2⟩ := m_270 so mo q1 h41 hn1 hn hx
      exact ⟨_, h1, h2, by simp (disch := omega) only [R_136_21, R_136_32, R_136_23, R_136_18, R_136_10, R_136_7, R_136_0, S_136, gd_t, bI_, bV_, bR_, and_self, and_true, true_and, ↓reduceIte, eq_self, oj_84, bI_1, bI_0, L0, L1, L40, L999, s_11r, hr, hr2, g1, eq_f], g2, I.agr (a1.tr a2)⟩
