/-! part 33: conditions of the class: steps that work on a pile of bits -/
def vaL (f : Nat → Nat) (a : Nat) : Nat := if a < 10000 then a else f (a - 10000)
def cmL (s x y : Nat) : Bool := if s = 20 then decide (x < y) else if s = 22 then decide (y < x) else decide (x = y)
/-- the steps at work; none where they are no such steps, or the pile is too high -/
def evL (f : Nat → Nat) : List Nat → Nat → Option Nat
  | [], P => some P
  | s :: t, P =>
    if s = 10 then evL f t (2 * (P / 2) + (1 - P % 2))
    else if s = 11 then evL f t (2 * (P / 4) + (P / 2 % 2) * (P % 2))
    else if s = 12 then evL f t (2 * (P / 4) + (P / 2 % 2 + P % 2 - (P / 2 % 2) * (P % 2)))
    else match t with
      | a :: b :: u => if 20 ≤ s ∧ s ≤ 22 ∧ a < 10005 ∧ b < 10005 ∧ P < 1024 then evL f u (2 * P + (cmL s (vaL f a) (vaL f b)).toNat) else none
      | _ => none
theorem pl_not : ∀ P, P < 2048 → nI P ^^^ 1 = nI (2 * (P / 2) + (1 - P % 2)) := by decide +kernel
theorem pl_and : ∀ P, P < 2048 → ((nI P).toUInt32 >>> ((1 : Int32).toUInt32 &&& Int32.toUInt32 31)).toInt32 &&& ((nI P &&& 1) ||| (-2)) = nI (2 * (P / 4) + (P / 2 % 2) * (P % 2)) := by decide +kernel
theorem pl_or : ∀ P, P < 2048 → ((nI P).toUInt32 >>> ((1 : Int32).toUInt32 &&& Int32.toUInt32 31)).toInt32 ||| (nI P &&& 1) = nI (2 * (P / 4) + (P / 2 % 2 + P % 2 - (P / 2 % 2) * (P % 2))) := by decide +kernel
theorem pl_p1 : ∀ P, P < 1024 → (nI P <<< ((1 : Int32) &&& 31)) ||| 1 = nI (2 * P + 1) := by decide +kernel
theorem pl_p0 : ∀ P, P < 1024 → (nI P <<< ((1 : Int32) &&& 31)) ||| 0 = nI (2 * P + 0) := by decide +kernel
theorem pl_top : ∀ P, P < 2048 → (nI P &&& 1 = 1 ↔ P % 2 = 1) := by decide +kernel
theorem lit_eq {s : Nat} (h : s < 2 ^ 31) (k : Nat) (hk : k < 2 ^ 31) : (nI s = nI k) ↔ s = k := nI_eq h hk
theorem ne_sh {a b : Nat} {u v : Nat × Nat} (ha : sh a = u) (hb : sh b = v) (h : u ≠ v) : a ≠ b := fun e => h (by rw [← ha, ← hb, e])
