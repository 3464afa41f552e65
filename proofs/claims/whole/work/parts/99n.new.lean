/-! part 99n: the world as far as it is made: cells 0 .. n - 1 -/
/-- a field of a reference that holds 0 is not yet set -/
def fvN (ad : Nat → Nat) (c ci : Nat) (f : Nat → Int32) (k : Nat) : Value := match (fk ci k).1 with
  | 0 => .int (f k)
  | 4 => .int (f k)
  | 1 => .long (rdL f)
  | 2 => if f k = 0 then .null else .ref (ad (c + (fk ci k).2))
  | _ => if f k = 0 then .null else .ref (ad (fk ci k).2)
def fldN (ad : Nat → Nat) (c ci : Nat) (f : Nat → Int32) : List Value := (List.range (fnF ci)).map (fvN ad c ci f)
def refN (ad : Nat → Nat) (t : Nat) (f : Nat → Int32) : Nat → Option Nat := fun i => if f i = 0 then none else some (ad (re t i))
def cellN (ad : Nat → Nat) (ct : Nat → ClassId) (c : Nat) (f : Nat → Int32) : va_E := match (sh c).1 with
  | 0 => .inl (ct 0, (sh c).2, .inl f)
  | 1 => .inr ((sh c).2, fldN ad c (sh c).2 f)
  | _ => .inl (ct (1 + (sh c).2), rl (sh c).2, .inr (.inr (.inr (.inr (refN ad (sh c).2 f)))))
def wsN (ad : Nat → Nat) (ct : Nat → ClassId) (h : Hp) (n : Nat) : va_W := (List.range n).map (fun c => (ad c, cellN ad ct c (h c)))
def zH : Hp := wrL (fun _ _ => 0) 84 0
/-- is field k of class ci a reference? where does it lead? -/
def isR (ci k : Nat) : Prop := (fk ci k).1 ≠ 0 ∧ (fk ci k).1 ≠ 1 ∧ (fk ci k).1 ≠ 4
def tgN (c ci k : Nat) : Nat := if (fk ci k).1 = 2 then c + (fk ci k).2 else (fk ci k).2
def wfN (h : Hp) (n : Nat) : Prop := (∀ c ci k, c < n → sh c = (1, ci) → k < fnF ci → isR ci k → h c k ≠ 0 → tgN c ci k < n) ∧ (∀ c t i, c < n → sh c = (2, t) → h c i ≠ 0 → re t i < n) ∧ ∀ c, n ≤ c → h c = zH c
def AdN (S0 : Nat) (ad : Nat → Nat) (n : Nat) : Prop := (∀ i j, i < n → j < n → ad i = ad j → i = j) ∧ ∀ i, i < n → S0 ≤ ad i
theorem sh3 (c : Nat) : c < NW → (sh c).1 = 0 ∨ (sh c).1 = 1 ∨ (sh c).1 = 2 := by revert c; decide +kernel
theorem fvN_go {ad ad' : Nat → Nat} {n c ci k : Nat} {f : Nat → Int32} (ha : ∀ c, c < n → ad' c = ad c) (hw : isR ci k → f k ≠ 0 → tgN c ci k < n) : fvN ad' c ci f k = fvN ad c ci f k := by
  unfold fvN
  unfold isR tgN at hw
  revert hw
  generalize (fk ci k).1 = q
  intro hw
  match q, hw with
  | 0, _ => rfl
  | 1, _ => rfl
  | 4, _ => rfl
  | 2, hw =>
    show (if f k = 0 then Value.null else _) = if f k = 0 then Value.null else _
    by_cases e : f k = 0
    · rw [if_pos e, if_pos e]
    · rw [if_neg e, if_neg e, ha _ (by have := hw ⟨by omega, by omega, by omega⟩ e; rwa [if_pos rfl] at this)]
  | 3, hw =>
    show (if f k = 0 then Value.null else _) = if f k = 0 then Value.null else _
    by_cases e : f k = 0
    · rw [if_pos e, if_pos e]
    · rw [if_neg e, if_neg e, ha _ (by have := hw ⟨by omega, by omega, by omega⟩ e; rwa [if_neg (by omega)] at this)]
  | q + 5, hw =>
    show (if f k = 0 then Value.null else _) = if f k = 0 then Value.null else _
    by_cases e : f k = 0
    · rw [if_pos e, if_pos e]
    · rw [if_neg e, if_neg e, ha _ (by have := hw ⟨by omega, by omega, by omega⟩ e; rwa [if_neg (by omega)] at this)]
theorem cellN_go {ad ad' : Nat → Nat} {ct : Nat → ClassId} {n c : Nat} {h : Hp} (hc : c < n) (hn : n ≤ NW) (ha : ∀ c, c < n → ad' c = ad c) (hw : wfN h n) : cellN ad' ct c (h c) = cellN ad ct c (h c) := by
  unfold cellN
  rcases sh3 c (by omega) with q | q | q <;> rw [q]
  · rfl
  · show Sum.inr _ = Sum.inr _
    have e : fldN ad' c (sh c).2 (h c) = fldN ad c (sh c).2 (h c) := by
      unfold fldN
      apply List.map_congr_left
      intro k hk
      exact fvN_go ha (fun r1 r2 => hw.1 c (sh c).2 k hc (by rw [← q]) (List.mem_range.mp hk) r1 r2)
    rw [e]
  · have e : refN ad' (sh c).2 (h c) = refN ad (sh c).2 (h c) := by
      funext i
      unfold refN
      by_cases e : h c i = 0
      · rw [if_pos e, if_pos e]
      · rw [if_neg e, if_neg e, ha _ (hw.2.1 c (sh c).2 i hc (by rw [← q]) e)]
    show Sum.inl _ = Sum.inl _
    rw [e]
theorem wsN_go {ad ad' : Nat → Nat} {ct : Nat → ClassId} {n : Nat} {h : Hp} (hn : n ≤ NW) (ha : ∀ c, c < n → ad' c = ad c) (hw : wfN h n) : wsN ad' ct h n = wsN ad ct h n := by
  unfold wsN
  apply List.map_congr_left
  intro c hc
  have hc := List.mem_range.mp hc
  rw [ha c hc, cellN_go hc hn ha hw]
theorem wsN_succ {ad : Nat → Nat} {ct : Nat → ClassId} {n : Nat} {h : Hp} : wsN ad ct h (n + 1) = wsN ad ct h n ++ [(ad n, cellN ad ct n (h n))] := by
  unfold wsN
  rw [List.range_succ, List.map_append]
  rfl
theorem wsN_at {ad : Nat → Nat} {ct : Nat → ClassId} {n c : Nat} {h : Hp} (hc : c < n) : (wsN ad ct h n)[c]? = some (ad c, cellN ad ct c (h c)) := by
  unfold wsN
  rw [List.getElem?_map, List.getElem?_range hc]
  rfl
theorem wsN_D {S0 n : Nat} {ad : Nat → Nat} {ct : Nat → ClassId} {h : Hp} (hA : AdN S0 ad n) : va_D (fun q => S0 ≤ q) (wsN ad ct h n) := by
  have key : ∀ (i : Nat) (p : Nat × va_E), (wsN ad ct h n)[i]? = some p → i < n ∧ p.1 = ad i := by
    intro i p hp
    have hl : i < (wsN ad ct h n).length := (List.getElem?_eq_some_iff.mp hp).1
    have hi : i < n := by simpa [wsN] using hl
    rw [wsN_at hi] at hp
    cases hp
    exact ⟨hi, rfl⟩
  refine ⟨fun i j p q hp hq e => ?_, fun k q hk => ?_⟩
  · obtain ⟨h1, h2⟩ := key i p hp
    obtain ⟨h3, h4⟩ := key j q hq
    exact hA.1 i j h1 h3 (by rw [← h2, ← h4, e])
  · obtain ⟨h1, h2⟩ := key k q hk
    show S0 ≤ q.1
    rw [h2]
    exact hA.2 k h1
theorem wsN_set {ad : Nat → Nat} {ct : Nat → ClassId} {n c : Nat} {h h' : Hp} (hc : c < n) (ho : ∀ j, j ≠ c → h' j = h j) : (wsN ad ct h n).set c (ad c, cellN ad ct c (h' c)) = wsN ad ct h' n := by
  apply List.ext_getElem?
  intro j
  rcases Nat.lt_or_ge j n with hj | hj
  · rw [wsN_at hj]
    by_cases e : j = c
    · subst e
      have hl : j < (wsN ad ct h n).length := by simp [wsN]; exact hj
      rw [List.getElem?_set_self hl]
    · rw [List.getElem?_set_ne (fun q => e q.symm), wsN_at hj, ho j e]
  · have hl : ∀ g : Hp, (wsN ad ct g n).length = n := fun g => by simp [wsN]
    rw [List.getElem?_eq_none (by rw [List.length_set, hl]; exact hj), List.getElem?_eq_none (by rw [hl]; exact hj)]
theorem cellN_obj {ad : Nat → Nat} {ct : Nat → ClassId} {c ci : Nat} {f : Nat → Int32} (h : sh c = (1, ci)) : cellN ad ct c f = .inr (ci, fldN ad c ci f) := by unfold cellN; rw [h]; rfl
theorem cellN_arr {ad : Nat → Nat} {ct : Nat → ClassId} {c n : Nat} {f : Nat → Int32} (h : sh c = (0, n)) : cellN ad ct c f = .inl (ct 0, n, .inl f) := by unfold cellN; rw [h]; rfl
theorem cellN_ref {ad : Nat → Nat} {ct : Nat → ClassId} {c t : Nat} {f : Nat → Int32} (h : sh c = (2, t)) : cellN ad ct c f = .inl (ct (1 + t), rl t, .inr (.inr (.inr (.inr (refN ad t f))))) := by unfold cellN; rw [h]; rfl
theorem fldN_at {ad : Nat → Nat} {c ci k : Nat} {f : Nat → Int32} (hk : k < fnF ci) : (fldN ad c ci f)[k]? = some (fvN ad c ci f k) := by
  unfold fldN
  rw [List.getElem?_map, List.getElem?_range hk]
  rfl
theorem fldN_len {ad : Nat → Nat} {c ci : Nat} {f : Nat → Int32} : (fldN ad c ci f).length = fnF ci := by simp [fldN]
/-- the contents of a new object -/
def dfV (ci k : Nat) : Value := match (fk ci k).1 with
  | 0 => .int 0
  | 4 => .int 0
  | 1 => .long 0
  | _ => .null
def dfL (ci : Nat) : List Value := (List.range (fnF ci)).map (dfV ci)
def isRT : FieldType → Bool
  | .object _ => true
  | .array _ => true
  | _ => false
theorem kd_ty : ∀ ci, ci < 10 → ∀ k, k < fnF ci → ((fk ci k).1 = 0 ∧ tyF ci k = .int) ∨ ((fk ci k).1 = 4 ∧ tyF ci k = .boolean) ∨ ((fk ci k).1 = 1 ∧ tyF ci k = .long) ∨ (((fk ci k).1 = 2 ∨ (fk ci k).1 = 3) ∧ isRT (tyF ci k) = true) := by decide +kernel
theorem isRT_null {ty : FieldType} (h : isRT ty = true) : defaultValue ty = .null := by cases ty <;> first | rfl | cases h
theorem df_ok {ci : Nat} (hc : ci < 10) (j : Nat) (hj : j < fnF ci) : defaultValue (tyF ci j) = vp_V (dfL ci) j := by
  have e : (dfL ci)[j]? = some (dfV ci j) := by
    unfold dfL
    rw [List.getElem?_map, List.getElem?_range hj]
    rfl
  have e2 : vp_V (dfL ci) j = dfV ci j := by
    unfold vp_V
    simp [e]
  rw [e2]
  unfold dfV
  rcases kd_ty ci hc j hj with ⟨a, b⟩ | ⟨a, b⟩ | ⟨a, b⟩ | ⟨a | a, b⟩
  · rw [a, b] <;> rfl
  · rw [a, b] <;> rfl
  · rw [a, b] <;> rfl
  · rw [a, isRT_null b] <;> rfl
  · rw [a, isRT_null b] <;> rfl
theorem fn_le : ∀ ci, ci < 10 → fnF ci ≤ 100 := by decide +kernel
theorem lg_only : ∀ c, c < NW → (sh c).1 = 1 → ∀ k, k < fnF (sh c).2 → (fk (sh c).2 k).1 = 1 → c = 84 := by decide +kernel
theorem zH_k {c j : Nat} (hj : j < 100) : zH c j = 0 := by unfold zH; rw [wrL_k hj]
theorem zH_c {c : Nat} (hc : c ≠ 84) : zH c = fun _ => 0 := by unfold zH; rw [wrL_c hc]
theorem fldN_z {ad : Nat → Nat} {c ci : Nat} (hs : sh c = (1, ci)) : fldN ad c ci (zH c) = dfL ci := by
  have hc10 := sh_c1 hs
  unfold fldN dfL
  apply List.map_congr_left
  intro k hk
  have hk := List.mem_range.mp hk
  have hk2 : k < 100 := Nat.lt_of_lt_of_le hk (fn_le ci hc10)
  unfold fvN dfV
  rcases kd_ty ci hc10 k hk with ⟨a, b⟩ | ⟨a, b⟩ | ⟨a, b⟩ | ⟨a | a, b⟩
  · rw [a]; show Value.int (zH c k) = Value.int 0; rw [zH_k hk2]
  · rw [a]; show Value.int (zH c k) = Value.int 0; rw [zH_k hk2]
  · rw [a]
    have : c = 84 := lg_only c (sh_lt hs (by decide)) (by rw [hs]) k (by rw [hs]; exact hk) (by rw [hs]; exact a)
    subst this
    show Value.long (rdL (zH 84)) = Value.long 0
    unfold zH
    rw [rdL_wrL]
  · rw [a]; show (if zH c k = 0 then Value.null else _) = Value.null; rw [if_pos (zH_k hk2)]
  · rw [a]; show (if zH c k = 0 then Value.null else _) = Value.null; rw [if_pos (zH_k hk2)]
theorem wfN_succ {h : Hp} {n : Nat} (hw : wfN h n) : wfN h (n + 1) := by
  refine ⟨fun c ci k hc hs hk hr he => ?_, fun c t i hc hs he => ?_, fun c hc => hw.2.2 c (by omega)⟩
  · rcases Nat.lt_or_ge c n with q | q
    · exact Nat.lt_succ_of_lt (hw.1 c ci k q hs hk hr he)
    · rw [hw.2.2 c q, zH_k (Nat.lt_of_lt_of_le hk (fn_le ci (sh_c1 hs)))] at he
      exact absurd rfl he
  · rcases Nat.lt_or_ge c n with q | q
    · exact Nat.lt_succ_of_lt (hw.2.1 c t i q hs he)
    · rw [hw.2.2 c q, zH_c (by intro e; subst e; cases hs)] at he
      exact absurd rfl he
theorem wfN_wr {h : Hp} {n a k : Nat} {x : Int32} (hw : wfN h n) (ha : a < n) (h1 : ∀ ci, sh a = (1, ci) → isR ci k → tgN a ci k < n) (h2 : ∀ t, sh a = (2, t) → re t k < n) : wfN (wr h a k x) n := by
  refine ⟨fun c ci j hc hs hj hr he => ?_, fun c t i hc hs he => ?_, fun c hc => by rw [wr_c (by omega)]; exact hw.2.2 c hc⟩
  · by_cases e : c = a ∧ j = k
    · obtain ⟨rfl, rfl⟩ := e
      exact h1 ci hs hr
    · unfold wr at he
      rw [if_neg e] at he
      exact hw.1 c ci j hc hs hj hr he
  · by_cases e : c = a ∧ i = k
    · obtain ⟨rfl, rfl⟩ := e
      exact h2 t hs
    · unfold wr at he
      rw [if_neg e] at he
      exact hw.2.1 c t i hc hs he
theorem wfN_int {h : Hp} {n a k m : Nat} {x : Int32} (hw : wfN h n) (ha : a < n) (hs : sh a = (0, m)) : wfN (wr h a k x) n := wfN_wr hw ha (fun ci q => by rw [hs] at q; cases q) (fun ci q => by rw [hs] at q; cases q)
def szc (c : Nat) : Nat := match (sh c).1 with
  | 0 => (sh c).2
  | 1 => fnF (sh c).2
  | _ => rl (sh c).2
def szN : Nat → Nat
  | 0 => 0
  | n + 1 => szN n + szc n
theorem szN_mono {a b : Nat} (h : a ≤ b) : szN a ≤ szN b := by
  induction h with
  | refl => exact Nat.le_refl _
  | step _ ih => exact Nat.le_trans ih (Nat.le_add_right _ _)
