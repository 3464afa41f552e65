/-! part 40: methods as functions: what goes on only where P holds; behind a call -/
noncomputable def gd {α : Type} (P : Prop) (a : Option α) : Option α := @ite _ P (Classical.propDecidable P) a none
theorem gd_s {α : Type} {P : Prop} {a : Option α} {r : α} (e : gd P a = some r) : P ∧ a = some r := by
  unfold gd at e
  by_cases h : P
  · rw [if_pos h] at e
    exact ⟨h, e⟩
  · rw [if_neg h] at e
    cases e
theorem gd_t {α : Type} {a : Option α} : gd True a = a := if_pos trivial
theorem gd_p {α : Type} {P : Prop} {a : Option α} (h : P) : gd P a = a := if_pos h
def bndI {α : Type} (o : Option (Int32 × Hp)) (f : Int32 → Hp → Option α) : Option α := match o with
  | some r => f r.1 r.2
  | none => none
def bndR {α : Type} (o : Option (Nat × Hp)) (f : Nat → Hp → Option α) : Option α := match o with
  | some r => f r.1 r.2
  | none => none
def bndV {α : Type} (o : Option (Int32 × Hp)) (f : Hp → Option α) : Option α := match o with
  | some r => f r.2
  | none => none
theorem bI_ {α : Type} {x : Int32} {h : Hp} {f : Int32 → Hp → Option α} : bndI (some (x, h)) f = f x h := rfl
theorem bR_ {α : Type} {x : Nat} {h : Hp} {f : Nat → Hp → Option α} : bndR (some (x, h)) f = f x h := rfl
theorem bV_ {α : Type} {x : Int32} {h : Hp} {f : Hp → Option α} : bndV (some (x, h)) f = f h := rfl
theorem bndI_s {α : Type} {o : Option (Int32 × Hp)} {f : Int32 → Hp → Option α} {r : α} (e : bndI o f = some r) : ∃ x h, o = some (x, h) ∧ f x h = some r := by
  cases o with
  | none => cases e
  | some q => exact ⟨q.1, q.2, rfl, e⟩
theorem bndR_s {α : Type} {o : Option (Nat × Hp)} {f : Nat → Hp → Option α} {r : α} (e : bndR o f = some r) : ∃ x h, o = some (x, h) ∧ f x h = some r := by
  cases o with
  | none => cases e
  | some q => exact ⟨q.1, q.2, rfl, e⟩
theorem bndV_s {α : Type} {o : Option (Int32 × Hp)} {f : Hp → Option α} {r : α} (e : bndV o f = some r) : ∃ x h, o = some (x, h) ∧ f h = some r := by
  cases o with
  | none => cases e
  | some q => exact ⟨q.1, q.2, rfl, e⟩
/-- how often a loop goes round at most -/
noncomputable def fuL : Nat := Classical.choose (⟨100000, rfl⟩ : ∃ n : Nat, n = 100000)
theorem fuL_eq : fuL = 100000 := Classical.choose_spec (⟨100000, rfl⟩ : ∃ n : Nat, n = 100000)
theorem fuL_gt {n : Nat} (h : n < 100000) : n < fuL := by
  rw [fuL_eq]
  exact h
def wdL : List (List Nat) := [[115, 99, 101, 110, 101], [116, 114, 105, 97, 108], [100, 117, 101, 116], [115, 117, 110, 115, 101, 116], [99, 114, 111, 119, 100], [109, 97, 116, 99, 104], [109, 101, 110, 100], [107, 101, 101, 112], [116, 114, 105, 109], [105, 102], [110, 111, 116], [97, 110, 100], [111, 114], [110, 105, 103, 104, 116], [116, 114, 117, 116, 104], [112, 114, 101, 116, 116, 121], [114, 97, 105, 108], [110, 117, 109, 98, 101, 114]]
/-- which word the n letters f are: its place in the list, or 28 -/
noncomputable def wdF (f : Nat → Int32) (n : Nat) : List (List Nat) → Nat → Nat
  | [], _ => 28
  | w :: t, i => @ite Nat (w.length = n ∧ ∀ j, j < n → f j = nI (w.getD j 0)) (Classical.propDecidable _) i (wdF f n t (i + 1))
noncomputable def S_51 (v1 : Int32) (v2 : Int32) (h : Hp) : Option (Int32 × Hp) := gd (v1 = nI v1.toNatClampNeg ∧ v2 = nI v2.toNatClampNeg ∧ v1.toNatClampNeg < v2.toNatClampNeg ∧ v2.toNatClampNeg ≤ 200) (some (nI (wdF (fun j => h 22 (v1.toNatClampNeg + j)) (v2.toNatClampNeg - v1.toNatClampNeg) wdL 0), h))
