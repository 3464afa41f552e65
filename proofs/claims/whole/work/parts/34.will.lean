/-! part 34: will, mayBeMended, actOfRest of the class -/
def Same (l : List Nat) (h h' : Hp) : Prop := ∀ c, c ∉ l → h' c = h c
theorem Same.rf {l : List Nat} {h : Hp} : Same l h h := fun _ _ => rfl
theorem Same.tr {l : List Nat} {h h1 h2 : Hp} (a : Same l h h1) (b : Same l h1 h2) : Same l h h2 := fun c hc => (b c hc).trans (a c hc)
theorem Same.le {l l' : List Nat} {h h' : Hp} (a : Same l h h') (hl : ∀ x ∈ l, x ∈ l') : Same l' h h' := fun c hc => a c (fun q => hc (hl c q))
theorem Same.wr {l : List Nat} {h h' : Hp} {a k : Nat} {x : Int32} (s : Same l h h') (ha : a ∈ l) : Same l h (wr h' a k x) := fun c hc => by
  rw [wr_c (fun e => hc (by rw [e]; exact ha))]
  exact s c hc
theorem mo7 : ∀ a, a < NW → sh a = (1, 3) → a = 13 ∨ a = 35 ∨ a = 38 ∨ a = 41 ∨ a = 44 ∨ a = 47 ∨ a = 76 := by decide +kernel
theorem MoId.m7 {a : Nat} (h : MoId a) : a = 13 ∨ a = 35 ∨ a = 38 ∨ a = 41 ∨ a = 44 ∨ a = 47 ∨ a = 76 := mo7 a (sh_lt h.1 (by decide)) h.1
def SegAt (σ : Nat → Int32) (i : Nat) (L : List Nat) : Prop := ∀ j v, L[j]? = some v → σ (i + j) = nI v ∧ v < 20000
/-- the steps L are the condition c -/
def CdL (L : List Nat) (c : (Nat → Nat) → Bool) : Prop := (L = [] ∧ ∀ f, c f = true) ∨ (L ≠ [] ∧ ∀ f, ∃ R, evL f L 0 = some R ∧ (R % 2 == 1) = c f)
def RulesAt (h : Hp) (r : Nat) (rl : Rl) : Prop := h r 5 = nI rl.length ∧ rl.length ≤ 8 ∧ ∃ (b : Nat → Nat) (Ls : Nat → List Nat), b 0 = 0 ∧ ∀ i q, rl[i]? = some q → h (r + 1) i = nI q.1 ∧ q.1 ≤ 5 ∧ h (r + 2) i = nI q.2.1 ∧ q.2.1 ≤ 2 ∧ b (i + 1) = b i + (Ls i).length ∧ b (i + 1) ≤ 200 ∧ h (r + 3) i = nI (b (i + 1)) ∧ SegAt (h (r + 4)) (b i) (Ls i) ∧ CdL (Ls i) q.2.2
theorem RulesAt.congr {h h' : Hp} {r : Nat} {rl : Rl} (a : RulesAt h r rl) (e0 : h' r 5 = h r 5) (e1 : h' (r + 1) = h (r + 1)) (e2 : h' (r + 2) = h (r + 2)) (e3 : h' (r + 3) = h (r + 3)) (e4 : h' (r + 4) = h (r + 4)) : RulesAt h' r rl := by
  unfold RulesAt at a ⊢
  rw [e0, e1, e2, e3, e4]
  exact a
/-- stage and its rules -/
def SF (h : Hp) (s : Sg) : Prop := SgAt h s ∧ RulesAt h 7 (sRules s)
theorem SF.congr {h h' : Hp} {s : Sg} (a : SF h s) (e : ∀ c, 1 ≤ c → c ≤ 11 → h' c = h c) : SF h' s := by
  refine ⟨?_, a.2.congr (by rw [e 7 (by decide) (by decide)]) (e 8 (by decide) (by decide)) (e 9 (by decide) (by decide)) (e 10 (by decide) (by decide)) (e 11 (by decide) (by decide))⟩
  have := a.1
  unfold SgAt at this ⊢
  rw [e 1 (by decide) (by decide), e 2 (by decide) (by decide), e 3 (by decide) (by decide), e 4 (by decide) (by decide), e 5 (by decide) (by decide), e 6 (by decide) (by decide)]
  exact this
theorem SF.same {h h' : Hp} {s : Sg} {l : List Nat} (a : SF h s) (e : Same l h h') (hl : ∀ x ∈ l, x < 1 ∨ 11 < x) : SF h' s := a.congr (fun c h1 h2 => e c (fun q => by have := hl c q; omega))
theorem MoAt.congr {h h' : Hp} {a : Nat} {s : Sg} {m : Mo} (q : MoAt h a s m) (e0 : h' a = h a) (e1 : h' (a + 1) = h (a + 1)) (e2 : h' (a + 2) = h (a + 2)) : MoAt h' a s m := by
  unfold MoAt at q ⊢
  rw [e0, e1, e2]
  exact q
def isAsS (a b : Nat) : Bool := a == b || b == 0 || (a == 3 && b == 2) || (a == 5 && b == 4)
theorem F26 : ∀ a, a < 6 → ∀ b, b < 6 → F_26 (nI a) (nI b) = bI (isAsS a b) := by decide +kernel
def willR (kind : Nat) (f : Nat → Nat) : Rl → Nat
  | [] => 0
  | q :: t => if isAsS kind q.1 && q.2.2 f then q.2.1 else willR kind f t
def factsS (s : Sg) (m : Mo) (k : Nat) : Nat → Nat := fun j => if j = 0 then mNight m else if j = 1 then mTruth m k else if j = 2 then mPretty m k else if j = 3 then railS s (mNight m) else k
def willS (s : Sg) (m : Mo) (k : Nat) : Nat := willR (sKind s k) (factsS s m k) (sRules s)
def mayS (s : Sg) (m : Mo) (k : Nat) : Bool := !(mSet m).testBit k && decide (0 < learnsS s m k) && decide (willS s m k = 0)
def actF (s : Sg) (m : Mo) : Nat → Nat → Nat
  | 0, _ => 0
  | j + 1, i => if mayS s m i then i + 1 else actF s m j (i + 1)
def actS (s : Sg) (m : Mo) : Nat := actF s m (sN s) 0
theorem willR_le {kind : Nat} {f : Nat → Nat} : ∀ {rl : Rl}, (∀ (i : Nat) q, rl[i]? = some q → q.2.1 ≤ 2) → willR kind f rl ≤ 2
  | [], _ => by unfold willR; omega
  | q :: t, h => by
    unfold willR
    split
    · exact h 0 q rfl
    · exact willR_le (rl := t) (fun i p hp => h (i + 1) p (by simpa using hp))
set_option maxRecDepth 100000 in
/-- holds -/
theorem c_27 {h : Hp} {f : Nat → Nat} {L : List Nat} {i to : Nat} {c : (Nat → Nat) → Bool} (hto : i + L.length = to) (h2 : to ≤ 200) (hs : SegAt (h 11) i L) (hc : CdL L c) (hf : ∀ j, j < 5 → h 12 j = nI (f j) ∧ f j < 2147483648) : CI 0 27 [.ref 7, .int (nI i), .int (nI to), .ref 12] h (fun x h' => h' = h ∧ x = bI (c f)) := by
  refine C.of mo_27 (Nat.le_of_ble_eq_true rfl) (fun X hq => ?_)
  refine k_27_0 (fun e => ?_) (fun e => ?_)
  · rw [nI_eq (by omega) (by omega)] at e
    refine k_27_9 ?_
    rcases hc with ⟨rfl, hc⟩ | ⟨hL, hc⟩
    · exact absurd (show i = to by simp at hto; omega) e
    · obtain ⟨R, hR, hv⟩ := hc f
      refine hold_loop h2 hf L.length L i 0 R (Nat.le_refl _) hto (by decide) hs hR (fun x hx => hq _ _ ⟨x, rfl, rfl, ?_⟩)
      rw [hx, hv]
  · rw [nI_eq (by omega) (by omega)] at e
    refine k_27_5 ?_
    have hL : L = [] := List.eq_nil_of_length_eq_zero (by omega)
    subst hL
    rcases hc with ⟨-, hc⟩ | ⟨hL, -⟩
    · refine hold_loop h2 hf 0 [] i 1 1 (Nat.le_refl _) hto (by decide) hs rfl (fun x hx => hq _ _ ⟨x, rfl, rfl, ?_⟩)
      rw [hx, hc f]
      rfl
    · exact absurd rfl hL
set_option maxRecDepth 100000 in
/-- willOf -/
theorem c_25 {h : Hp} {f : Nat → Nat} {rl : Rl} {kind : Nat} (hk : kind ≤ 5) (hr : RulesAt h 7 rl) (hf : ∀ j, j < 5 → h 12 j = nI (f j) ∧ f j < 2147483648) : CI 2 25 [.ref 7, .int (nI kind), .ref 12] h (fun x h' => h' = h ∧ x = nI (willR kind f rl)) := by
  refine C.of mo_25 (Nat.le_of_ble_eq_true rfl) (fun X hq => ?_)
  obtain ⟨h5, hlen, b, Ls, hb0, hrow⟩ := hr
  refine k_25_0 ?_
  have loop : ∀ j r : Nat, r + j = rl.length → willR kind f rl = willR kind f (rl.drop r) → G X 2 25 5 [some (.ref 7), some (.int (nI kind)), some (.ref 12), some (.int (nI (b r))), some (.int (nI r))] [] h := by
    intro j
    induction j with
    | zero =>
      intro r e ew
      refine k_25_5 (fun c => ?_) (fun c => absurd (by rw [h5]; exact nI_le (by omega) (by omega)) c)
      refine k_25_66 (hq _ _ ⟨_, rfl, rfl, ?_⟩)
      rw [ew, List.drop_eq_nil_of_le (by omega)]
      rfl
    | succ j ih =>
      intro r e ew
      have hr : r < rl.length := by omega
      obtain ⟨r1, r2, r3, r4, r5, r6, r7, r8, r9⟩ := hrow r rl[r] (List.getElem?_eq_getElem hr)
      have ed : rl.drop r = rl[r] :: rl.drop (r + 1) := List.drop_eq_getElem_cons hr
      have ew2 : willR kind f rl = if isAsS kind rl[r].1 && rl[r].2.2 f then rl[r].2.1 else willR kind f (rl.drop (r + 1)) := by rw [ew, ed]; rfl
      have h8 : h 8 r = nI rl[r].1 := r1
      have h9 : h 9 r = nI rl[r].2.1 := r3
      have h10 : h 10 r = nI (b (r + 1)) := r7
      have next : (isAsS kind rl[r].1 && rl[r].2.2 f) = false → G X 2 25 52 [some (.ref 7), some (.int (nI kind)), some (.ref 12), none, some (.int (nI r))] [] h := by
        intro hn
        refine k_25_52 (IA.of rfl (by omega) (by decide)) ?_
        rw [nc (by omega), h10, nI_1]
        refine ih (r + 1) (by omega) ?_
        rw [ew2, hn]
        rfl
      refine k_25_5 (fun c => absurd c (by rw [h5]; exact nI_ge hr (by omega))) (fun _ => ?_)
      refine k_25_14 (IA.of rfl (by omega) (by decide)) (by decide) c_26 ?_
      rintro x h' ⟨rfl, rfl⟩
      rw [nc (by omega), h8, F26 kind (by omega) rl[r].1 (by omega)]
      cases ha : isAsS kind rl[r].1 with
      | false => exact k_25_25 (fun _ => next (by rw [ha]; rfl)) (fun q => absurd rfl q)
      | true =>
        refine k_25_25 (fun q => absurd q (by decide)) (fun _ => ?_)
        have hC := c_27 (h := h') (f := f) r5.symm r6 r8 r9 hf
        rw [← h10] at hC
        refine k_25_28 (d' := 0) (IA.of rfl (by omega) (by decide)) (by decide) (by rw [nc (by omega)]; exact hC) ?_
        rintro x h' ⟨rfl, rfl⟩
        cases hc : rl[r].2.2 f with
        | false => exact k_25_41 (fun _ => next (by rw [ha, hc]; rfl)) (fun q => absurd rfl q)
        | true =>
          refine k_25_41 (fun q => absurd q (by decide)) (fun _ => ?_)
          refine k_25_44 (IA.of rfl (by omega) (by decide)) (hq _ _ ⟨_, rfl, rfl, ?_⟩)
          rw [nc (by omega), h9, ew2, ha, hc]
          rfl
  have := loop rl.length 0 (by omega) rfl
  rw [hb0] at this
  exact this
set_option maxRecDepth 100000 in
set_option maxHeartbeats 1000000 in
/-- will -/
theorem c_24 {h : Hp} {a k : Nat} {s : Sg} {m : Mo} (hid : MoId a) (so : SgOk s) (mo : MoOk s m) (hs : SF h s) (hm : MoAt h a s m) (hk : k < sN s) : CI 3 24 [.ref 1, .ref a, .int (nI k)] h (fun x h' => Same [12] h h' ∧ x = nI (willS s m k)) := by
  refine C.of mo_24 (Nat.le_of_ble_eq_true rfl) (fun X hq => ?_)
  have hn := so.1
  have h7 := hid.m7
  refine k_24_0 (fun c => ?_) (fun c => ?_)
  · obtain ⟨t1, t2⟩ := hm.1 k hk
    have e3 := hm.2.2.1
    have n12 : a ≠ 12 := by omega
    have n13 : a + 1 ≠ 12 := by omega
    have n14 : a + 2 ≠ 12 := by omega
    have z0 : Int32.toNatClampNeg 0 = 0 := rfl
    have z1 : Int32.toNatClampNeg 1 = 1 := rfl
    have z2 : Int32.toNatClampNeg 2 = 2 := rfl
    have z3 : Int32.toNatClampNeg 3 = 3 := rfl
    have z4 : Int32.toNatClampNeg 4 = 4 := rfl
    obtain ⟨H, hH⟩ : ∃ H, H = wr (wr (wr h 12 0 (nI (mNight m))) 12 1 (nI (mTruth m k))) 12 2 (nI (mPretty m k)) := ⟨_, rfl⟩
    have eH : wr (wr (wr h 12 (Int32.toNatClampNeg 0) (h a 3)) 12 (Int32.toNatClampNeg 1) ((wr h 12 (Int32.toNatClampNeg 0) (h a 3)) (a + 1) (Int32.toNatClampNeg (nI k)))) 12 (Int32.toNatClampNeg 2) ((wr (wr h 12 (Int32.toNatClampNeg 0) (h a 3)) 12 (Int32.toNatClampNeg 1) ((wr h 12 (Int32.toNatClampNeg 0) (h a 3)) (a + 1) (Int32.toNatClampNeg (nI k)))) (a + 2) (Int32.toNatClampNeg (nI k))) = H := by
      rw [hH, z0, z1, z2, nc (by omega), wr_c n13, wr_c n14, wr_c n14, e3, t1, t2]
    have sH : Same [12] h H := by
      rw [hH]
      exact ((Same.rf.wr (by simp)).wr (by simp)).wr (by simp)
    have hs2 : SF H s := hs.same sH (by simp)
    have hC := c_17 so hs2.1 mo.2.2
    have e4 : H a 3 = nI (mNight m) := by rw [sH a (by simp; omega), e3]
    rw [← e4] at hC
    refine k_24_12 hid.1 (IA.of (k := 0) rfl (by decide) (by decide)) (IA.of hid.2.1 (by omega) (by decide)) (IA.of (k := 1) rfl (by decide) (by decide)) (IA.of hid.2.2 (by omega) (by decide)) (IA.of (k := 2) rfl (by decide) (by decide)) (d' := 0) (by decide) (by rw [eH]; exact hC) ?_
    rintro x h' ⟨rfl, rfl⟩
    obtain ⟨H2, hH2⟩ : ∃ H2, H2 = wr (wr h' 12 3 (nI (railS s (mNight m)))) 12 4 (nI k) := ⟨_, rfl⟩
    have s2 : Same [12] h H2 := by
      rw [hH2]
      exact (sH.wr (by simp)).wr (by simp)
    have hs3 : SF H2 s := hs.same s2 (by simp)
    have hkd := so.2.1 k hk
    have htr := mo.1 k hk
    have hrl : railS s (mNight m) ≤ 3 := by
      have := houseS_le so (mNight m)
      unfold railS
      omega
    have hf : ∀ j, j < 5 → H2 12 j = nI (factsS s m k j) ∧ factsS s m k j < 2147483648 := by
      intro j hj
      have hnt := mo.2.2
      rcases (show j = 0 ∨ j = 1 ∨ j = 2 ∨ j = 3 ∨ j = 4 by omega) with rfl | rfl | rfl | rfl | rfl
      · refine ⟨?_, show mNight m < 2147483648 by omega⟩
        rw [hH2, wr_k (by decide), wr_k (by decide), hH, wr_k (by decide), wr_k (by decide), wr_self]
        rfl
      · refine ⟨?_, show mTruth m k < 2147483648 by omega⟩
        rw [hH2, wr_k (by decide), wr_k (by decide), hH, wr_k (by decide), wr_self]
        rfl
      · refine ⟨?_, show mPretty m k < 2147483648 by omega⟩
        rw [hH2, wr_k (by decide), wr_k (by decide), hH, wr_self]
        rfl
      · refine ⟨?_, show railS s (mNight m) < 2147483648 by omega⟩
        rw [hH2, wr_k (by decide), wr_self]
        rfl
      · refine ⟨?_, show k < 2147483648 by omega⟩
        rw [hH2, wr_self]
        rfl
    have hC2 := c_25 hkd.2.1 hs3.2 hf
    have e5 : H2 2 (Int32.toNatClampNeg (nI k)) = nI (sKind s k) := by rw [nc (by omega), (hs3.1.2.1 k hk).1]
    rw [← e5] at hC2
    have eH2 : wr (wr h' 12 (Int32.toNatClampNeg 3) (nI (railS s (mNight m)))) 12 (Int32.toNatClampNeg 4) (nI k) = H2 := by rw [hH2, z3, z4]
    refine k_24_59 (IA.of (k := 3) rfl (by decide) (by decide)) (IA.of (k := 4) rfl (by decide) (by decide)) (IA.of rfl (by omega) (by decide)) (d' := 2) (by decide) (by rw [eH2]; exact hC2) ?_
    rintro x h'' ⟨rfl, rfl⟩
    exact k_24_84 (hq _ _ ⟨_, rfl, s2, rfl⟩)
  · refine k_24_10 (hq _ _ ⟨_, rfl, Same.rf, ?_⟩)
    have h5 := hs.2.1
    rw [h5] at c
    have : sRules s = [] := List.eq_nil_of_length_eq_zero ((nI_eq (b := 0) (by have := hs.2.2.1; omega) (by decide)).mp c)
    unfold willS
    rw [this]
    rfl
