/-! part 36: goBy, and what looks at a moment -/
def midT (m : Mo) (i : Nat) : Mo := (fun k => if k < i then fadeT m k else mTruth m k, mPretty m, mSet m, mNight m, mScore m, mSeed m)
theorem drawnS_le {s : Sg} {m : Mo} (so : SgOk s) (mo : MoOk s m) : ∀ n, n ≤ sN s → drawnS s m n ≤ 65 * n
  | 0, _ => Nat.le_refl 0
  | n + 1, h => by
    have := drawnS_le so mo n (by omega)
    have := drawsS_le so mo (k := n) (by omega)
    unfold drawnS
    omega
theorem goW_le {s : Sg} {m : Mo} {act : Nat} (so : SgOk s) (mo : MoOk s m) : goW s m act ≤ 453 := by
  have h1 := drawnS_le so (doOk (act := act) mo).1 (sN s) (Nat.le_refl _)
  have hn := so.1
  have hh := houseS_le so (mNight m)
  have h2 : (doM s m act).1 ≤ 63 := by
    unfold doM
    split
    · exact Nat.zero_le _
    split
    · exact Nat.zero_le _
    split
    · exact Nat.zero_le _
    split
    · exact learnsS_le so mo (by omega)
    split
    · show 2 * (houseS s (mNight m) % 4) ≤ 63
      omega
    · exact Nat.zero_le _
  unfold goW
  omega
set_option maxRecDepth 100000 in
set_option maxHeartbeats 1000000 in
/-- goBy -/
theorem c_81 {h : Hp} {a act : Nat} {s : Sg} {m : Mo} (hid : MoId a) (so : SgOk s) (mo : MoOk s m) (hs : SF h s) (hm : MoAt h a s m) (ha : act ≤ 6) : CI 4 81 [.ref 1, .ref a, .int (nI act)] h (fun x h' => Same [12, a, a + 1, a + 2] h h' ∧ MoAt h' a s (goM s m act) ∧ x = nI (goW s m act)) := by
  refine C.of mo_81 (Nat.le_of_ble_eq_true rfl) (fun X hq => ?_)
  have hn := so.1
  have h7 := hid.m7
  have hset := mo.set so
  -- behind what is done
  have behind : ∀ H, Same [12, a, a + 1, a + 2] h H → MoAt H a s (doM s m act).2 → G X 4 81 62 [some (.ref 1), some (.ref a), none, none, some (.int (nI (doM s m act).1)), none] [] H ∧ G X 4 81 60 [some (.ref 1), some (.ref a), none, none, none, none] [.int (nI (doM s m act).1)] H := by
    intro H sH hm1
    obtain ⟨mo1, d1, d2, d3⟩ := doOk (act := act) mo
    obtain ⟨m1, em1⟩ : ∃ q, q = (doM s m act).2 := ⟨_, rfl⟩
    obtain ⟨w0, ew0⟩ : ∃ q, q = (doM s m act).1 := ⟨_, rfl⟩
    have hs1 : SF H s := hs.same sH (by simp; omega)
    have hset1 := mo1.set so
    rw [← em1] at hm1 mo1 hset1
    rw [← ew0]
    have fade : ∀ j i : Nat, i + j = sN s → ∀ H2, Same [12, a, a + 1, a + 2] h H2 → MoAt H2 a s (midT m1 i) → G X 4 81 95 [some (.ref 1), some (.ref a), none, none, some (.int (nI (goW s m act))), some (.int (nI i))] [] H2 := by
      intro j
      induction j with
      | zero =>
        intro i e H2 s2 hm2
        have hs2 : SF H2 s := hs.same s2 (by simp; omega)
        refine k_81_95 (fun c => ?_) (fun c => absurd (by rw [hs2.1.1]; exact nI_le (by omega) (by omega)) c)
        refine k_81_139 hid.1 (hq _ _ ⟨_, rfl, (s2.wr (by simp)).wr (by simp), ?_, rfl⟩)
        have r1 : wr (wr H2 a 3 (H2 a 3 + 1)) a 4 (wr H2 a 3 (H2 a 3 + 1) a 4 + nI (goW s m act)) (a + 1) = H2 (a + 1) := by rw [wr_c (by omega), wr_c (by omega)]
        have r2 : wr (wr H2 a 3 (H2 a 3 + 1)) a 4 (wr H2 a 3 (H2 a 3 + 1) a 4 + nI (goW s m act)) (a + 2) = H2 (a + 2) := by rw [wr_c (by omega), wr_c (by omega)]
        refine ⟨fun k hk => ⟨?_, ?_⟩, ?_, ?_, ?_, ?_⟩
        · rw [r1, (hm2.1 k hk).1]
          show nI (if k < i then fadeT m1 k else mTruth m1 k) = nI (fadeT (doM s m act).2 k)
          rw [if_pos (by omega), em1]
        · rw [r2, (hm2.1 k hk).2]
          show nI (mPretty m1 k) = nI (mPretty (doM s m act).2 k)
          rw [em1]
        · rw [wr_k (by decide), wr_k (by decide), hm2.2.1]
          show nI (mSet m1) = nI (mSet (doM s m act).2)
          rw [em1]
        · rw [wr_k (by decide), wr_self, hm2.2.2.1]
          show nI (mNight m1) + 1 = nI (mNight (doM s m act).2 + 1)
          rw [em1, nI_1]
        · rw [wr_self, wr_k (by decide), hm2.2.2.2.1]
          show mScore m1 + nI (goW s m act) = mScore (doM s m act).2 + nI (goW s m act)
          rw [em1]
        · rw [wr_k (by decide), wr_k (by decide), hm2.2.2.2.2]
          show mSeed m1 = mSeed (doM s m act).2
          rw [em1]
      | succ j ih =>
        intro i e H2 s2 hm2
        have hs2 : SF H2 s := hs.same s2 (by simp; omega)
        have hi : i < sN s := by omega
        refine k_81_95 (fun c => absurd c (by rw [hs2.1.1]; exact nI_ge (by omega) (by omega))) (fun _ => ?_)
        refine k_81_104 hid.1 (by decide) (c_15 (s := mSet m1) hid.1 hm2.2.1 hset1 (by omega)) ?_
        have ei : mTruth (midT m1 i) i = mTruth m1 i := if_neg (Nat.lt_irrefl i)
        rintro x h' ⟨rfl, ⟨rfl, p1⟩ | ⟨rfl, p1⟩⟩
        · refine k_81_110 (fun _ => ?_) (fun q => absurd q (by decide))
          refine k_81_133 ?_
          rw [nI_1]
          refine ih (i + 1) (by omega) h' s2 (hm2.ext (fun k hk => ⟨?_, rfl⟩) rfl rfl rfl rfl)
          show (if k < i + 1 then fadeT m1 k else mTruth m1 k) = (if k < i then fadeT m1 k else mTruth m1 k)
          by_cases ek : k = i
          · subst ek
            rw [if_pos (Nat.lt_succ_self k), if_neg (Nat.lt_irrefl k)]
            unfold fadeT
            rw [if_pos p1]
          · by_cases hki : k < i
            · rw [if_pos (by omega), if_pos hki]
            · rw [if_neg (by omega), if_neg hki]
        · refine k_81_110 (fun q => absurd rfl q) (fun _ => ?_)
          refine k_81_113 hid.1 (IA.of hid.2.1 (by omega) (by decide)) (by decide) ?_
          have ht := (mo1.1 i hi).1
          have ev : (if (0 : Int32) < h' (a + 1) (Int32.toNatClampNeg (nI i)) - 1 then h' (a + 1) (Int32.toNatClampNeg (nI i)) - 1 else 0) = nI (mTruth m1 i - 1) := by
            rw [nc (by omega), (hm2.1 i hi).1, ei]
            exact maxsub (b := 1) (by omega) (by decide)
          rw [ev, nc (by omega), nI_1]
          refine ih (i + 1) (by omega) _ (s2.wr (by simp)) ?_
          have r2 : wr h' (a + 1) i (nI (mTruth m1 i - 1)) (a + 2) = h' (a + 2) := wr_c (by omega)
          have r0 : wr h' (a + 1) i (nI (mTruth m1 i - 1)) a = h' a := wr_c (by omega)
          refine ⟨fun k hk => ⟨?_, by rw [r2]; exact (hm2.1 k hk).2⟩, by rw [r0]; exact hm2.2.1, by rw [r0]; exact hm2.2.2.1, by rw [r0]; exact hm2.2.2.2.1, by rw [r0]; exact hm2.2.2.2.2⟩
          show _ = nI (if k < i + 1 then fadeT m1 k else mTruth m1 k)
          by_cases ek : k = i
          · subst ek
            rw [wr_self, if_pos (Nat.lt_succ_self k)]
            unfold fadeT
            rw [p1]
            rfl
          · rw [wr_k ek, (hm2.1 k hk).1]
            show nI (if k < i then fadeT m1 k else mTruth m1 k) = _
            by_cases hki : k < i
            · rw [if_pos (by omega), if_pos hki]
            · rw [if_neg (by omega), if_neg hki]
    have draw : ∀ j i : Nat, i + j = sN s → G X 4 81 65 [some (.ref 1), some (.ref a), none, none, some (.int (nI (w0 + drawnS s m1 i))), some (.int (nI i))] [] H := by
      intro j
      induction j with
      | zero =>
        intro i e
        refine k_81_65 (fun c => ?_) (fun c => absurd (by rw [hs1.1.1]; exact nI_le (by omega) (by omega)) c)
        refine k_81_92 ?_
        have := fade (sN s) 0 (by omega) H sH (hm1.ext (fun k hk => ⟨if_neg (Nat.not_lt_zero k), rfl⟩) rfl rfl rfl rfl)
        unfold goW at this
        rw [← em1, ← ew0] at this
        rw [show i = sN s by omega]
        exact this
      | succ j ih =>
        intro i e
        refine k_81_65 (fun c => absurd c (by rw [hs1.1.1]; exact nI_ge (by omega) (by omega))) (fun _ => ?_)
        refine k_81_74 (by decide) (c_21 hid so mo1 hs1.1 hm1 (by omega)) ?_
        rintro x h' ⟨rfl, rfl⟩
        refine k_81_83 ?_
        have := ih (i + 1) (by omega)
        rw [show w0 + drawnS s m1 (i + 1) = w0 + drawnS s m1 i + drawsS s m1 i by unfold drawnS; omega, ← nI_add, ← nI_1] at this
        exact this
    have d0 := draw (sN s) 0 (by omega)
    exact ⟨k_81_62 d0, k_81_60 d0⟩
  -- what is done
  by_cases a0 : act = 0
  · subst a0
    refine k_81_0 (fun c => (behind h Same.rf hm).1) (fun c => absurd (by decide) c)
  · have e1 : nI act - 1 = nI (act - 1) := pk_sub (b := 1) (by omega)
    refine k_81_0 (fun c => absurd c (by rw [e1]; exact nI_pos (by omega))) (fun _ => ?_)
    rw [e1]
    by_cases hlt : sN s < act
    · refine k_81_11 (fun c => ?_) (fun c => absurd (by rw [hs.1.1]; exact nI_le (by omega) (by omega)) c)
      have ed : doM s m act = (0, m) := by unfold doM; rw [if_neg a0, if_pos hlt]
      have := (behind h Same.rf (by rw [ed]; exact hm)).1
      rw [ed] at this
      exact this
    · have hk : act - 1 < sN s := by omega
      refine k_81_11 (fun c => absurd c (by rw [hs.1.1]; exact nI_ge (by omega) (by omega))) (fun _ => ?_)
      refine k_81_19 hid.1 (by decide) (c_15 hid.1 hm.2.1 hset (by omega)) ?_
      rintro x h' ⟨rfl, ⟨rfl, p1⟩ | ⟨rfl, p1⟩⟩
      · refine k_81_24 (fun _ => ?_) (fun q => absurd q (by decide))
        have ed : doM s m act = (0, m) := by unfold doM; rw [if_neg a0, if_neg hlt, if_pos p1]
        have := (behind h' Same.rf (by rw [ed]; exact hm)).1
        rw [ed] at this
        exact this
      · refine k_81_24 (fun q => absurd rfl q) (fun _ => ?_)
        refine k_81_27 (by decide) (c_24 hid so mo hs hm hk) ?_
        rintro x H ⟨sH, rfl⟩
        have hs2 : SF H s := hs.same sH (by simp)
        have hm2 : MoAt H a s m := hm.congr (sH _ (by simp; omega)) (sH _ (by simp; omega)) (sH _ (by simp; omega))
        have hw2 : willS s m (act - 1) ≤ 2 := willR_le (fun i q hq => by
          obtain ⟨-, -, b, Ls, -, hrow⟩ := hs.2
          exact (hrow i q hq).2.2.2.1)
        have np : ¬ (mSet m).testBit (act - 1) = true := by rw [p1]; decide
        have sH4 : Same [12, a, a + 1, a + 2] h' H := sH.le (by simp)
        refine k_81_33 (fun c => ?_) (fun c => ?_)
        · have cw : ¬ willS s m (act - 1) = 0 := fun q => c (by rw [q]; rfl)
          refine k_81_48 (fun c2 => ?_) (fun c2 => ?_)
          · have cw2 : ¬ willS s m (act - 1) = 2 := fun q => c2 (by rw [q]; rfl)
            have ed : doM s m act = (0, m) := by unfold doM; rw [if_neg a0, if_neg hlt, if_neg np, if_neg cw, if_neg cw2]
            have := (behind H sH4 (by rw [ed]; exact hm2)).1
            rw [ed] at this
            exact this
          · have cw2 : willS s m (act - 1) = 2 := (nI_eq (b := 2) (by omega) (by decide)).mp c2
            have ed : doM s m act = (2 * (houseS s (mNight m) % 4), trimS s m (act - 1)) := by unfold doM; rw [if_neg a0, if_neg hlt, if_neg np, if_neg cw, if_pos cw2]
            refine k_81_54 (by decide) (c_84 hid so mo hs2 hm2 hk) ?_
            rintro x H3 ⟨s3, hm3, rfl⟩
            have := (behind H3 (sH4.tr (s3.le (by simp))) (by rw [ed]; exact hm3)).2
            rw [ed] at this
            exact this
        · have cw : willS s m (act - 1) = 0 := (nI_eq (b := 0) (by omega) (by decide)).mp c
          have ed : doM s m act = (learnsS s m (act - 1), mendS s m (act - 1)) := by unfold doM; rw [if_neg a0, if_neg hlt, if_neg np, if_pos cw]
          refine k_81_40 (by decide) (c_82 hid so mo hs2 hm2 hk) ?_
          rintro x H3 ⟨s3, hm3, rfl⟩
          refine k_81_46 (fun _ => ?_) (fun c2 => absurd c2 (by rw [cw]; decide))
          have := (behind H3 (sH4.tr (s3.le (by simp))) (by rw [ed]; exact hm3)).1
          rw [ed] at this
          exact this
