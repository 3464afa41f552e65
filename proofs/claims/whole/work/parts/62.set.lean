/-! part 62: single writes to stage and moment (wip/whole/mk62.py) -/
def sHs (s : Sg) (k v : Nat) : Sg := (sN s, sKind s, sPlace s, upN (sHouse s) k v, sLight s, sNoise s, sEnd s, sRules s)
def sLt (s : Sg) (k v : Nat) : Sg := (sN s, sKind s, sPlace s, sHouse s, upN (sLight s) k v, sNoise s, sEnd s, sRules s)
def sNo (s : Sg) (k v : Nat) : Sg := (sN s, sKind s, sPlace s, sHouse s, sLight s, upN (sNoise s) k v, sEnd s, sRules s)
def sKd (s : Sg) (k v : Nat) : Sg := (sN s, upN (sKind s) k v, sPlace s, sHouse s, sLight s, sNoise s, sEnd s, sRules s)
def sEn (s : Sg) (v : Nat) : Sg := (sN s, sKind s, sPlace s, sHouse s, sLight s, sNoise s, v, sRules s)
def mTr (m : Mo) (k v : Nat) : Mo := (upN (mTruth m) k v, mPretty m, mSet m, mNight m, mScore m, mSeed m)
theorem MdAt.Hs {f : Nat → Int32} {s : Sg} {m : Mo} {k v : Nat} (hk : k < 16) (q : MdAt f s m) : MdAt (upd f (7 + k) (nI v)) (sHs s k v) m := by
  obtain ⟨a0, a1, a2, a3, a4, a5, a6, a7⟩ := q
  refine ⟨by rw [pk_un (by omega)]; exact a0, by rw [pk_un (by omega)]; exact a1, by rw [pk_un (by omega)]; exact a2, by rw [pk_un (by omega)]; exact a3, by rw [pk_un (by omega)]; exact a4, fun t ht => by
    show _ = nI (upN (sHouse s) k v t)
    by_cases e : t = k
    · rw [e, pk_us, upN_s]
    · rw [pk_un (by omega), upN_n e]; exact a5 t ht, fun t ht => ⟨by rw [pk_un (by omega)]; exact (a6 t ht).1, by rw [pk_un (by omega)]; exact (a6 t ht).2⟩, fun j hj => ?_⟩
  obtain ⟨b1, b2, b3, b4, b5⟩ := a7 j hj
  exact ⟨by rw [pk_un (by omega)]; exact b1, by rw [pk_un (by omega)]; exact b2, by rw [pk_un (by omega)]; exact b3, by rw [pk_un (by omega)]; exact b4, by rw [pk_un (by omega)]; exact b5⟩
theorem MdAt.Lt {f : Nat → Int32} {s : Sg} {m : Mo} {k v : Nat} (hk : k < 6) (q : MdAt f s m) : MdAt (upd f (23 + k) (nI v)) (sLt s k v) m := by
  obtain ⟨a0, a1, a2, a3, a4, a5, a6, a7⟩ := q
  refine ⟨by rw [pk_un (by omega)]; exact a0, by rw [pk_un (by omega)]; exact a1, by rw [pk_un (by omega)]; exact a2, by rw [pk_un (by omega)]; exact a3, by rw [pk_un (by omega)]; exact a4, fun t ht => by rw [pk_un (by omega)]; exact a5 t ht, fun t ht => ⟨by
    show _ = nI (upN (sLight s) k v t)
    by_cases e : t = k
    · rw [e, pk_us, upN_s]
    · rw [pk_un (by omega), upN_n e]; exact (a6 t ht).1, by rw [pk_un (by omega)]; exact (a6 t ht).2⟩, fun j hj => ?_⟩
  obtain ⟨b1, b2, b3, b4, b5⟩ := a7 j hj
  exact ⟨by rw [pk_un (by omega)]; exact b1, by rw [pk_un (by omega)]; exact b2, by rw [pk_un (by omega)]; exact b3, by rw [pk_un (by omega)]; exact b4, by rw [pk_un (by omega)]; exact b5⟩
theorem MdAt.No {f : Nat → Int32} {s : Sg} {m : Mo} {k v : Nat} (hk : k < 6) (q : MdAt f s m) : MdAt (upd f (29 + k) (nI v)) (sNo s k v) m := by
  obtain ⟨a0, a1, a2, a3, a4, a5, a6, a7⟩ := q
  refine ⟨by rw [pk_un (by omega)]; exact a0, by rw [pk_un (by omega)]; exact a1, by rw [pk_un (by omega)]; exact a2, by rw [pk_un (by omega)]; exact a3, by rw [pk_un (by omega)]; exact a4, fun t ht => by rw [pk_un (by omega)]; exact a5 t ht, fun t ht => ⟨by rw [pk_un (by omega)]; exact (a6 t ht).1, by
    show _ = nI (upN (sNoise s) k v t)
    by_cases e : t = k
    · rw [e, pk_us, upN_s]
    · rw [pk_un (by omega), upN_n e]; exact (a6 t ht).2⟩, fun j hj => ?_⟩
  obtain ⟨b1, b2, b3, b4, b5⟩ := a7 j hj
  exact ⟨by rw [pk_un (by omega)]; exact b1, by rw [pk_un (by omega)]; exact b2, by rw [pk_un (by omega)]; exact b3, by rw [pk_un (by omega)]; exact b4, by rw [pk_un (by omega)]; exact b5⟩
theorem MdAt.Kd {f : Nat → Int32} {s : Sg} {m : Mo} {k v : Nat} (q : MdAt f s m) : MdAt (upd f (35 + 5 * k + 0) (nI v)) (sKd s k v) m := by
  obtain ⟨a0, a1, a2, a3, a4, a5, a6, a7⟩ := q
  refine ⟨by rw [pk_un (by omega)]; exact a0, by rw [pk_un (by omega)]; exact a1, by rw [pk_un (by omega)]; exact a2, by rw [pk_un (by omega)]; exact a3, by rw [pk_un (by omega)]; exact a4, fun t ht => by rw [pk_un (by omega)]; exact a5 t ht, fun t ht => ⟨by rw [pk_un (by omega)]; exact (a6 t ht).1, by rw [pk_un (by omega)]; exact (a6 t ht).2⟩, fun j hj => ?_⟩
  obtain ⟨b1, b2, b3, b4, b5⟩ := a7 j hj
  exact ⟨by
    show _ = nI (upN (sKind s) k v j)
    by_cases e : j = k
    · rw [e, pk_us, upN_s]
    · rw [pk_un (by omega), upN_n e]; exact b1, by rw [pk_un (by omega)]; exact b2, by rw [pk_un (by omega)]; exact b3, by rw [pk_un (by omega)]; exact b4, by rw [pk_un (by omega)]; exact b5⟩
theorem MdAt.En {f : Nat → Int32} {s : Sg} {m : Mo} {v : Nat} (q : MdAt f s m) : MdAt (upd f (2) (nI v)) (sEn s v) m := by
  obtain ⟨a0, a1, a2, a3, a4, a5, a6, a7⟩ := q
  refine ⟨by rw [pk_un (by omega)]; exact a0, by rw [pk_un (by omega)]; exact a1, by rw [pk_us]; rfl, by rw [pk_un (by omega)]; exact a3, by rw [pk_un (by omega)]; exact a4, fun t ht => by rw [pk_un (by omega)]; exact a5 t ht, fun t ht => ⟨by rw [pk_un (by omega)]; exact (a6 t ht).1, by rw [pk_un (by omega)]; exact (a6 t ht).2⟩, fun j hj => ?_⟩
  obtain ⟨b1, b2, b3, b4, b5⟩ := a7 j hj
  exact ⟨by rw [pk_un (by omega)]; exact b1, by rw [pk_un (by omega)]; exact b2, by rw [pk_un (by omega)]; exact b3, by rw [pk_un (by omega)]; exact b4, by rw [pk_un (by omega)]; exact b5⟩
theorem MdAt.Tr {f : Nat → Int32} {s : Sg} {m : Mo} {k v : Nat} (q : MdAt f s m) : MdAt (upd f (35 + 5 * k + 1) (nI v)) s (mTr m k v) := by
  obtain ⟨a0, a1, a2, a3, a4, a5, a6, a7⟩ := q
  refine ⟨by rw [pk_un (by omega)]; exact a0, by rw [pk_un (by omega)]; exact a1, by rw [pk_un (by omega)]; exact a2, by rw [pk_un (by omega)]; exact a3, by rw [pk_un (by omega)]; exact a4, fun t ht => by rw [pk_un (by omega)]; exact a5 t ht, fun t ht => ⟨by rw [pk_un (by omega)]; exact (a6 t ht).1, by rw [pk_un (by omega)]; exact (a6 t ht).2⟩, fun j hj => ?_⟩
  obtain ⟨b1, b2, b3, b4, b5⟩ := a7 j hj
  exact ⟨by rw [pk_un (by omega)]; exact b1, by
    show _ = nI (upN (mTruth m) k v j)
    by_cases e : j = k
    · rw [e, pk_us, upN_s]
    · rw [pk_un (by omega), upN_n e]; exact b2, by rw [pk_un (by omega)]; exact b3, by rw [pk_un (by omega)]; exact b4, by rw [pk_un (by omega)]; exact b5⟩
theorem SMd.Hs {h : Hp} {s : Sg} {m : Mo} {k v : Nat} (hk : k < 16) (q : SMd h s m) : SMd (wr h 85 (7 + k) (nI v)) (sHs s k v) m := by
  unfold SMd
  rw [wr_row]
  exact ⟨q.1.Hs hk, q.2.congr (fun j hj => pk_un (by omega))⟩
theorem SMd.Lt {h : Hp} {s : Sg} {m : Mo} {k v : Nat} (hk : k < 6) (q : SMd h s m) : SMd (wr h 85 (23 + k) (nI v)) (sLt s k v) m := by
  unfold SMd
  rw [wr_row]
  exact ⟨q.1.Lt hk, q.2.congr (fun j hj => pk_un (by omega))⟩
theorem SMd.No {h : Hp} {s : Sg} {m : Mo} {k v : Nat} (hk : k < 6) (q : SMd h s m) : SMd (wr h 85 (29 + k) (nI v)) (sNo s k v) m := by
  unfold SMd
  rw [wr_row]
  exact ⟨q.1.No hk, q.2.congr (fun j hj => pk_un (by omega))⟩
theorem SMd.Kd {h : Hp} {s : Sg} {m : Mo} {k v : Nat} (hk : k < 6) (q : SMd h s m) : SMd (wr h 85 (35 + 5 * k + 0) (nI v)) (sKd s k v) m := by
  unfold SMd
  rw [wr_row]
  exact ⟨q.1.Kd, q.2.congr (fun j hj => pk_un (by omega))⟩
theorem SMd.En {h : Hp} {s : Sg} {m : Mo} {v : Nat} (q : SMd h s m) : SMd (wr h 85 (2) (nI v)) (sEn s v) m := by
  unfold SMd
  rw [wr_row]
  exact ⟨q.1.En, q.2.congr (fun j hj => pk_un (by omega))⟩
theorem SMd.Tr {h : Hp} {s : Sg} {m : Mo} {k v : Nat} (hk : k < 6) (q : SMd h s m) : SMd (wr h 85 (35 + 5 * k + 1) (nI v)) s (mTr m k v) := by
  unfold SMd
  rw [wr_row]
  exact ⟨q.1.Tr, q.2.congr (fun j hj => pk_un (by omega))⟩
theorem SF.w {h : Hp} {s : Sg} {c i : Nat} {x : Int32} (q : SF h s) (hc : 12 ≤ c) : SF (wr h c i x) s := q.congr (fun d _ _ => wr_c (by omega))
theorem MoAt.w {h : Hp} {a : Nat} {s : Sg} {m : Mo} {c i : Nat} {x : Int32} (q : MoAt h a s m) (h0 : a ≠ c) (h1 : a + 1 ≠ c) (h2 : a + 2 ≠ c) : MoAt (wr h c i x) a s m := q.congr (wr_c h0) (wr_c h1) (wr_c h2)
theorem SMd.w {h : Hp} {s : Sg} {m : Mo} {c i : Nat} {x : Int32} (q : SMd h s m) (hc : 85 ≠ c) : SMd (wr h c i x) s m := q.same_c (wr_c hc)
theorem AgrS.rf {h : Hp} : AgrS h h := Agr.rf.s
theorem AgrS.w {h h' : Hp} {c i : Nat} {x : Int32} (a : AgrS h h') (hc : (1 ≤ c ∧ c ≤ 15) ∨ (31 ≤ c ∧ c ≤ 49)) : AgrS h (wr h' c i x) := a.tr (AgrS.ofC (l := [c]) (Same.rf.wr (by simp)) (by simp; omega))
theorem AgrS.w85 {h h' : Hp} {i : Nat} {x : Int32} (a : AgrS h h') (hi : i ≠ 6 ∧ (i < 65 ∨ 89 ≤ i)) : AgrS h (wr h' 85 i x) := by
  obtain ⟨a1, a2, a3, a4, a5, a6⟩ := a
  exact ⟨fun c e1 e2 e3 => by rw [wr_c e3]; exact a1 c e1 e2 e3, by rw [wr_c (by decide)]; exact a2, by rw [wr_c (by decide)]; exact a3, by rw [wr_c (by decide)]; exact a4, fun j hj => by rw [wr_c (by decide)]; exact a5 j hj, fun j hj => by rw [wr_k (by omega)]; exact a6 j hj⟩
theorem Inv.mk {h h2 : Hp} {s s' : Sg} {m m' : Mo} (C : Core h s m) (D : Side h) (so' : SgOk s') (mo' : MoOk s' m') (hs' : SF h2 s') (hm' : MoAt h2 13 s' m') (q' : SMd h2 s' m') (e4 : h2 84 4 = h 84 4) (a : AgrS h h2) : Inv h2 := ⟨⟨s', m', so', mo', hs', hm', q', by rw [e4]; exact C.2.2.2.2.2⟩, D.agr a⟩
theorem upN_le {f : Nat → Nat} {k v j b : Nat} (h : v ≤ b) (h2 : j ≠ k → f j ≤ b) : upN f k v j ≤ b := by
  by_cases e : j = k
  · rw [e, upN_s]; exact h
  · rw [upN_n e]; exact h2 e
theorem SF.Hs {h : Hp} {s : Sg} {k v : Nat} (q : SF h s) : SF (wr h 4 k (nI v)) (sHs s k v) := by
  refine ⟨⟨by rw [wr_c (by decide)]; exact q.1.n, fun j hj => ⟨by rw [wr_c (by decide)]; exact q.1.kind hj, by rw [wr_c (by decide)]; exact q.1.place hj⟩, fun t ht => ?_, by rw [wr_c (by decide), wr_c (by decide)]; exact q.1.2.2.2.1, by rw [wr_c (by decide)]; exact q.1.end_⟩, q.2.congr (by rw [wr_c (by decide)]) (wr_c (by decide)) (wr_c (by decide)) (wr_c (by decide)) (wr_c (by decide))⟩
  show _ = nI (upN (sHouse s) k v t)
  by_cases e : t = k
  · rw [e, wr_self, upN_s]
  · rw [wr_k e, upN_n e]; exact q.1.house ht
theorem SF.Lt {h : Hp} {s : Sg} {k v : Nat} (q : SF h s) : SF (wr h 5 k (nI v)) (sLt s k v) := by
  refine ⟨⟨by rw [wr_c (by decide)]; exact q.1.n, fun j hj => ⟨by rw [wr_c (by decide)]; exact q.1.kind hj, by rw [wr_c (by decide)]; exact q.1.place hj⟩, fun t ht => by rw [wr_c (by decide)]; exact q.1.house ht, fun t ht => ⟨?_, by rw [wr_c (by decide)]; exact q.1.noise ht⟩, by rw [wr_c (by decide)]; exact q.1.end_⟩, q.2.congr (by rw [wr_c (by decide)]) (wr_c (by decide)) (wr_c (by decide)) (wr_c (by decide)) (wr_c (by decide))⟩
  show _ = nI (upN (sLight s) k v t)
  by_cases e : t = k
  · rw [e, wr_self, upN_s]
  · rw [wr_k e, upN_n e]; exact q.1.light ht
theorem SF.No {h : Hp} {s : Sg} {k v : Nat} (q : SF h s) : SF (wr h 6 k (nI v)) (sNo s k v) := by
  refine ⟨⟨by rw [wr_c (by decide)]; exact q.1.n, fun j hj => ⟨by rw [wr_c (by decide)]; exact q.1.kind hj, by rw [wr_c (by decide)]; exact q.1.place hj⟩, fun t ht => by rw [wr_c (by decide)]; exact q.1.house ht, fun t ht => ⟨by rw [wr_c (by decide)]; exact q.1.light ht, ?_⟩, by rw [wr_c (by decide)]; exact q.1.end_⟩, q.2.congr (by rw [wr_c (by decide)]) (wr_c (by decide)) (wr_c (by decide)) (wr_c (by decide)) (wr_c (by decide))⟩
  show _ = nI (upN (sNoise s) k v t)
  by_cases e : t = k
  · rw [e, wr_self, upN_s]
  · rw [wr_k e, upN_n e]; exact q.1.noise ht
theorem SF.Kd {h : Hp} {s : Sg} {k v : Nat} (q : SF h s) : SF (wr h 2 k (nI v)) (sKd s k v) := by
  refine ⟨⟨by rw [wr_c (by decide)]; exact q.1.n, fun j hj => ⟨?_, by rw [wr_c (by decide)]; exact q.1.place hj⟩, fun t ht => by rw [wr_c (by decide)]; exact q.1.house ht, by rw [wr_c (by decide), wr_c (by decide)]; exact q.1.2.2.2.1, by rw [wr_c (by decide)]; exact q.1.end_⟩, q.2.congr (by rw [wr_c (by decide)]) (wr_c (by decide)) (wr_c (by decide)) (wr_c (by decide)) (wr_c (by decide))⟩
  show _ = nI (upN (sKind s) k v j)
  by_cases e : j = k
  · rw [e, wr_self, upN_s]
  · rw [wr_k e, upN_n e]; exact q.1.kind hj
theorem SF.En {h : Hp} {s : Sg} {v : Nat} (q : SF h s) : SF (wr h 1 8 (nI v)) (sEn s v) := by
  refine ⟨⟨by rw [wr_k (by decide)]; exact q.1.n, fun j hj => ⟨by rw [wr_c (by decide)]; exact q.1.kind hj, by rw [wr_c (by decide)]; exact q.1.place hj⟩, fun t ht => by rw [wr_c (by decide)]; exact q.1.house ht, by rw [wr_c (by decide), wr_c (by decide)]; exact q.1.2.2.2.1, by rw [wr_self]; rfl⟩, q.2.congr (by rw [wr_c (by decide)]) (wr_c (by decide)) (wr_c (by decide)) (wr_c (by decide)) (wr_c (by decide))⟩
theorem MoAt.Tr {h : Hp} {a : Nat} {s : Sg} {m : Mo} {k v : Nat} (q : MoAt h a s m) : MoAt (wr h (a + 1) k (nI v)) a s (mTr m k v) := by
  refine ⟨fun j hj => ⟨?_, by rw [wr_c (by omega)]; exact q.pretty hj⟩, by rw [wr_c (by omega)]; exact q.set, by rw [wr_c (by omega)]; exact q.night, by rw [wr_c (by omega)]; exact q.score, by rw [wr_c (by omega)]; exact q.seed⟩
  show _ = nI (upN (mTruth m) k v j)
  by_cases e : j = k
  · rw [e, wr_self, upN_s]
  · rw [wr_k e, upN_n e]; exact q.truth hj
theorem sHs_ok {s : Sg} {k v : Nat} (so : SgOk s) (hv : v ≤ 15) : SgOk (sHs s k v) := ⟨so.1, so.2.1, fun t ht => upN_le hv (fun _ => so.2.2.1 t ht), so.2.2.2⟩
theorem sLt_ok {s : Sg} {k v : Nat} (so : SgOk s) (hv : v ≤ 9) : SgOk (sLt s k v) := ⟨so.1, so.2.1, so.2.2.1, fun f hf => ⟨upN_le hv (fun _ => (so.2.2.2.1 f hf).1), (so.2.2.2.1 f hf).2⟩, so.2.2.2.2⟩
theorem sNo_ok {s : Sg} {k v : Nat} (so : SgOk s) (hv : v ≤ 9) : SgOk (sNo s k v) := ⟨so.1, so.2.1, so.2.2.1, fun f hf => ⟨(so.2.2.2.1 f hf).1, upN_le hv (fun _ => (so.2.2.2.1 f hf).2)⟩, so.2.2.2.2⟩
theorem sKd_ok {s : Sg} {k v : Nat} (so : SgOk s) (h1 : 1 ≤ v) (hv : v ≤ 5) : SgOk (sKd s k v) := ⟨so.1, fun j hj => ⟨by
  show 1 ≤ upN (sKind s) k v j
  by_cases e : j = k
  · rw [e, upN_s]; exact h1
  · rw [upN_n e]; exact (so.2.1 j hj).1, upN_le hv (fun _ => (so.2.1 j hj).2.1), (so.2.1 j hj).2.2⟩, so.2.2⟩
theorem sEn_ok {s : Sg} {v : Nat} (so : SgOk s) (h1 : 1 ≤ v) (hv : v ≤ 16) : SgOk (sEn s v) := ⟨so.1, so.2.1, so.2.2.1, so.2.2.2.1, h1, hv⟩
theorem mTr_ok {s : Sg} {m : Mo} {k v : Nat} (mo : MoOk s m) (hv : v ≤ 99) : MoOk s (mTr m k v) := ⟨fun j hj => ⟨upN_le hv (fun _ => (mo.1 j hj).1), (mo.1 j hj).2⟩, mo.2⟩
theorem s_197 {h : Hp} {i : Nat} {x : Int32} (hi : i < 361) : S_197 (nI i) x h = some (h 85 i, wr h 85 i x) := by
  simp (disch := omega) only [R_197_0, S_197, gd_t, bI_, bV_, bR_, and_self, and_true, true_and, ↓reduceIte, eq_self, oj_84, bI_1, bI_0, L0, L1, L85, ncl, ia_85]
theorem rng_ne {a b j : Nat} {v : Int32} (h : rng a b v = false) (h1 : a ≤ j) (h2 : j ≤ b) (h3 : j < 2147483648) : (v = nI j) = False := eq_false (fun e => by rw [e, rng_n h1 h2 h3] at h; cases h)
