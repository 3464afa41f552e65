/-! part 34: will, mayBeMended, actOfRest of the class -/
def Same (l : List Nat) (h h' : Hp) : Prop := ∀ c, c ∉ l → h' c = h c
theorem Same.rf {l : List Nat} {h : Hp} : Same l h h := fun _ _ => rfl
theorem Same.tr {l : List Nat} {h h1 h2 : Hp} (a : Same l h h1) (b : Same l h1 h2) : Same l h h2 := fun c hc => (b c hc).trans (a c hc)
theorem Same.le {l l' : List Nat} {h h' : Hp} (a : Same l h h') (hl : ∀ x ∈ l, x ∈ l') : Same l' h h' := fun c hc => a c (fun q => hc (hl c q))
theorem Same.wr {l : List Nat} {h h' : Hp} {a k : Nat} {x : Int32} (s : Same l h h') (ha : a ∈ l) : Same l h (wr h' a k x) := fun c hc => by
  rw [wr_c (fun e => hc (by rw [e]; exact ha))]
  exact s c hc
theorem mo7 : ∀ a, a < NW → sh a = (1, 3) → a = 13 ∨ a = 35 ∨ a = 38 ∨ a = 41 ∨ a = 44 ∨ a = 47 ∨ a = 76 := by decide +kernel
theorem MoId.m7 {a : Nat} (h : MoId a) : a = 13 ∨ a = 35 ∨ a = 38 ∨ a = 41 ∨ a = 44 ∨ a = 47 ∨ a = 76 := mo7 a (sh_lt h.1 (by decide)) h.1
def SegAt (σ : Nat → Int32) (i : Nat) (L : List Nat) : Prop := ∀ j v, L[j]? = some v → σ (i + j) = nI v ∧ v < 20000
/-- the steps L are the condition c -/
def CdL (L : List Nat) (c : (Nat → Nat) → Bool) : Prop := (L = [] ∧ ∀ f, c f = true) ∨ (L ≠ [] ∧ ∀ f, ∃ R, evL f L 0 = some R ∧ (R % 2 == 1) = c f)
def RulesAt (h : Hp) (r : Nat) (rl : Rl) : Prop := h r 5 = nI rl.length ∧ rl.length ≤ 8 ∧ ∃ (b : Nat → Nat) (Ls : Nat → List Nat), b 0 = 0 ∧ ∀ i q, rl[i]? = some q → h (r + 1) i = nI q.1 ∧ q.1 ≤ 5 ∧ h (r + 2) i = nI q.2.1 ∧ q.2.1 ≤ 2 ∧ b (i + 1) = b i + (Ls i).length ∧ b (i + 1) ≤ 200 ∧ h (r + 3) i = nI (b (i + 1)) ∧ SegAt (h (r + 4)) (b i) (Ls i) ∧ CdL (Ls i) q.2.2
theorem RulesAt.congr {h h' : Hp} {r : Nat} {rl : Rl} (a : RulesAt h r rl) (e0 : h' r 5 = h r 5) (e1 : h' (r + 1) = h (r + 1)) (e2 : h' (r + 2) = h (r + 2)) (e3 : h' (r + 3) = h (r + 3)) (e4 : h' (r + 4) = h (r + 4)) : RulesAt h' r rl := by
  unfold RulesAt at a ⊢
  rw [e0, e1, e2, e3, e4]
  exact a
/-- stage and its rules -/
def SF (h : Hp) (s : Sg) : Prop := SgAt h s ∧ RulesAt h 7 (sRules s)
theorem SF.congr {h h' : Hp} {s : Sg} (a : SF h s) (e : ∀ c, 1 ≤ c → c ≤ 11 → h' c = h c) : SF h' s := by
  refine ⟨?_, a.2.congr (by rw [e 7 (by decide) (by decide)]) (e 8 (by decide) (by decide)) (e 9 (by decide) (by decide)) (e 10 (by decide) (by decide)) (e 11 (by decide) (by decide))⟩
  have := a.1
  unfold SgAt at this ⊢
  rw [e 1 (by decide) (by decide), e 2 (by decide) (by decide), e 3 (by decide) (by decide), e 4 (by decide) (by decide), e 5 (by decide) (by decide), e 6 (by decide) (by decide)]
  exact this
theorem SF.same {h h' : Hp} {s : Sg} {l : List Nat} (a : SF h s) (e : Same l h h') (hl : ∀ x ∈ l, x < 1 ∨ 11 < x) : SF h' s := a.congr (fun c h1 h2 => e c (fun q => by have := hl c q; omega))
theorem MoAt.congr {h h' : Hp} {a : Nat} {s : Sg} {m : Mo} (q : MoAt h a s m) (e0 : h' a = h a) (e1 : h' (a + 1) = h (a + 1)) (e2 : h' (a + 2) = h (a + 2)) : MoAt h' a s m := by
  unfold MoAt at q ⊢
  rw [e0, e1, e2]
  exact q
def isAsS (a b : Nat) : Bool := a == b || b == 0 || (a == 3 && b == 2) || (a == 5 && b == 4)
theorem F26 : ∀ a, a < 6 → ∀ b, b < 6 → F_26 (nI a) (nI b) = bI (isAsS a b) := by decide +kernel
def willR (kind : Nat) (f : Nat → Nat) : Rl → Nat
  | [] => 0
  | q :: t => if isAsS kind q.1 && q.2.2 f then q.2.1 else willR kind f t
def factsS (s : Sg) (m : Mo) (k : Nat) : Nat → Nat := fun j => if j = 0 then mNight m else if j = 1 then mTruth m k else if j = 2 then mPretty m k else if j = 3 then railS s (mNight m) else k
def willS (s : Sg) (m : Mo) (k : Nat) : Nat := willR (sKind s k) (factsS s m k) (sRules s)
def mayS (s : Sg) (m : Mo) (k : Nat) : Bool := !(mSet m).testBit k && decide (0 < learnsS s m k) && decide (willS s m k = 0)
def actF (s : Sg) (m : Mo) : Nat → Nat → Nat
  | 0, _ => 0
  | j + 1, i => if mayS s m i then i + 1 else actF s m j (i + 1)
def actS (s : Sg) (m : Mo) : Nat := actF s m (sN s) 0
theorem willR_le {kind : Nat} {f : Nat → Nat} : ∀ {rl : Rl}, (∀ (i : Nat) q, rl[i]? = some q → q.2.1 ≤ 2) → willR kind f rl ≤ 2
  | [], _ => by unfold willR; omega
  | q :: t, h => by
    unfold willR
    split
    · exact h 0 q rfl
    · exact willR_le (rl := t) (fun i p hp => h (i + 1) p (by simpa using hp))
