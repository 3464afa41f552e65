/-! part 99r: the first world keeps the invariant -/
def hF : Hp := q_175_84 (q_0_0 zH)
def s0F : Sg := (0, fun _ => 0, fun _ => 0, fun _ => 9, fun _ => 0, fun _ => 0, 12, [])
def m0F : Mo := (fun _ => 0, fun _ => 0, 0, 0, 0, 1)
theorem hF_1 : hF 1 7 = nI 0 ∧ hF 1 8 = nI 12 ∧ (∀ t, t < 16 → hF 4 t = nI 9) ∧ (∀ f, f < 6 → hF 5 f = nI 0 ∧ hF 6 f = nI 0) ∧ hF 7 5 = nI 0 ∧ hF 13 2 = nI 0 ∧ hF 13 3 = nI 0 ∧ hF 13 4 = 0 ∧ hF 13 5 = 1 := by decide +kernel
theorem hF_2 : hF 85 0 = nI 0 ∧ hF 85 1 = nI 0 ∧ hF 85 2 = nI 12 ∧ hF 85 3 = 0 ∧ hF 85 4 = 1 ∧ (∀ t, t < 16 → hF 85 (7 + t) = nI 9) ∧ (∀ i, i < 6 → hF 85 (23 + i) = nI 0 ∧ hF 85 (29 + i) = nI 0) ∧ hF 85 5 = nI 0 ∧ hF 85 6 = nI 0 ∧ hF 84 4 = nI 0 := by decide +kernel
theorem hF_3 : hF 16 4 = nI 0 ∧ hF 0 12 = 0 ∧ hF 84 2 = 0 ∧ hF 21 1 = nI 0 ∧ hF 84 7 = nI 0 ∧ hF 0 8 = nI 0 ∧ hF 84 27 = nI 0 ∧ hF 61 1 = nI 0 ∧ hF 84 35 = nI 0 := by decide +kernel
theorem hF_4 : ∀ t, t < 4 → hF 51 t = nI 0 - nI 1 ∧ hF 94 t = nI 0 ∧ hF 52 t = nI 0 ∧ hF 95 t = nI 0 ∧ hF 58 t = nI 0 ∧ hF 97 t = nI 0 := by decide +kernel
theorem inv_F : Inv hF := by
  obtain ⟨a1, a2, a3, a4, a5, a6, a7, a8, a9⟩ := hF_1
  obtain ⟨b1, b2, b3, b4, b5, b6, b7, b8, b9, b10⟩ := hF_2
  obtain ⟨c1, c2, c3, c4, c5, c6, c7, c8, c9⟩ := hF_3
  refine ⟨⟨s0F, m0F, ?_, ?_, ⟨?_, ?_⟩, ?_, ⟨?_, ?_⟩, b10⟩, ?_, ?_, ?_, ?_, ?_, ?_, ?_⟩
  · exact ⟨by decide, fun k hk => absurd hk (Nat.not_lt_zero k), fun t _ => (show 9 ≤ 15 by decide), fun f _ => ⟨Nat.zero_le _, Nat.zero_le _⟩, by decide, by decide⟩
  · exact ⟨fun k hk => absurd hk (Nat.not_lt_zero k), by decide, by decide⟩
  · exact ⟨a1, fun k hk => absurd hk (Nat.not_lt_zero k), a3, a4, a2⟩
  · exact ⟨a5, by decide, fun _ => 0, fun _ => [], rfl, fun i q hq => by cases hq⟩
  · exact ⟨fun k hk => absurd hk (Nat.not_lt_zero k), a6, a7, a8, a9⟩
  · exact ⟨b1, b2, b3, b4, b5, b6, b7, fun k hk => absurd hk (Nat.not_lt_zero k)⟩
  · exact ⟨b8, by decide, fun _ => 0, fun _ => [], fun i q hq => by cases hq⟩
  · exact ⟨0, fun _ => 0, fun _ => 0, fun _ => 0, fun _ => 0, by decide, c1, b9, fun r hr => absurd hr (Nat.not_lt_zero r)⟩
  · exact ⟨false, c2, c3, fun q => by cases q⟩
  · exact ⟨0, fun _ => 0, by decide, c4, c5, fun j hj => absurd hj (Nat.not_lt_zero j)⟩
  · exact ⟨0, by decide, c6, c7, fun j hj => absurd hj (by omega)⟩
  · intro t ht
    obtain ⟨d1, d2, d3, d4, d5, d6⟩ := hF_4 t ht
    exact ⟨0, 0, by decide, by decide, d1, d2, d3, d4, fun j hj => absurd hj (Nat.not_lt_zero j)⟩
  · intro t ht
    obtain ⟨d1, d2, d3, d4, d5, d6⟩ := hF_4 t ht
    exact ⟨0, by decide, d5, d6, fun q => absurd rfl q, fun q => by cases q⟩
  · exact ⟨0, by decide, c8, c9, fun j hj => absurd hj (Nat.not_lt_zero j)⟩
