/-! part 99t: the whole world out of its last cell -/
theorem hF_ref : ∀ c, c < NW → (sh c).1 = 1 → ∀ k, k < fnF (sh c).2 → ((fk (sh c).2 k).1 = 2 ∨ (fk (sh c).2 k).1 = 3) → hF c k = 1 := by decide +kernel
theorem hF_arr : ∀ c, c < NW → (sh c).1 = 2 → ∀ i, i < rl (sh c).2 → hF c i = 1 := by decide +kernel
theorem fld_full {ad : Nat → Nat} {c ci : Nat} (hs : sh c = (1, ci)) : fldN ad c ci (hF c) = flds ad c ci (hF c) := by
  have hc10 := sh_c1 hs
  have hc := sh_lt hs (by decide)
  unfold fldN flds
  apply List.map_congr_left
  intro k hk
  have hk := List.mem_range.mp hk
  unfold fvN fval
  rcases kd_ty ci hc10 k hk with ⟨a, _⟩ | ⟨a, _⟩ | ⟨a, _⟩ | ⟨a | a, _⟩
  · rw [a]; rfl
  · rw [a]; rfl
  · rw [a]; rfl
  · have e1 := hF_ref c hc (by rw [hs]) k (by rw [hs]; exact hk) (by rw [hs]; exact Or.inl a)
    rw [a]
    show (if hF c k = 0 then Value.null else _) = _
    rw [if_neg (by rw [e1]; decide)]
    rfl
  · have e1 := hF_ref c hc (by rw [hs]) k (by rw [hs]; exact hk) (by rw [hs]; exact Or.inr a)
    rw [a]
    show (if hF c k = 0 then Value.null else _) = _
    rw [if_neg (by rw [e1]; decide)]
    rfl
theorem wsW_full {D : va_G} {ct : Nat → ClassId} {ad : Nat → Nat} {H : Heap} (hP : va_P D classes (wsN ad ct hF NW) H) : va_P D classes (wsW (ad, D, ct) hF) H := by
  intro k q hk
  have hl : k < (wsW (ad, D, ct) hF).length := (List.getElem?_eq_some_iff.mp hk).1
  have hk9 : k < NW := by simpa [wsW] using hl
  rw [wsW_at (ad, D, ct) hF hk9] at hk
  cases hk
  have h1 := hP k _ (wsN_at hk9)
  rcases sh3 k hk9 with a | a | a
  · have hs : sh k = (0, (sh k).2) := by rw [← a]
    rw [cellN_arr hs] at h1
    rw [cellE_arr hs]
    exact h1
  · have hs : sh k = (1, (sh k).2) := by rw [← a]
    rw [cellN_obj hs, fld_full hs] at h1
    rw [cellE_obj hs]
    exact h1
  · have hs : sh k = (2, (sh k).2) := by rw [← a]
    rw [cellN_ref hs] at h1
    rw [cellE_ref hs]
    have h2 : H[ad k]? = some (vp_cell (ct (1 + (sh k).2)) (rl (sh k).2, .inr (.inr (.inr (.inr (refN ad (sh k).2 (hF k))))))) := h1
    show H[ad k]? = some (vp_cell (ct (1 + (sh k).2)) (rl (sh k).2, .inr (.inr (.inr (.inr (fun i => some (ad (re (sh k).2 i))))))))
    rw [h2, vp_cell_q, vp_cell_q]
    refine congrArg some (arrV_go fun j hj => ?_)
    unfold refN
    rw [if_neg (by rw [hF_arr k hk9 a j hj]; decide)]
theorem va_Z.re {C n d : String} {v : Value} {A A' : Nat → Prop} {U : State} {H : Heap} (hA : ∀ q, A' q → A q) (h : va_Z C n d v A U H) : va_Z C n d v A' U H := by
  obtain ⟨cf, kf, fi, f, a, cell, h1, h2, h3, h4, h5, h6, h7, h8⟩ := h
  exact ⟨cf, kf, fi, f, a, cell, h1, h2, h3, h4, h5, h6, h7, fun q => h8 (hA _ q)⟩
theorem va_Zq.re {C n d : String} {A A' : Nat → Prop} {U : State} {H : Heap} (hA : ∀ q, A' q → A q) (h : va_Zq C n d A U H) : va_Zq C n d A' U H := by
  rcases h with h | ⟨t, h⟩
  · exact Or.inl (h.re hA)
  · exact Or.inr ⟨t, h.re hA⟩
theorem va_T.re {ty : FieldType} {t N : Nat} {f : Nat → Value} {A A' : Nat → Prop} {U : State} {H : Heap} (hA : ∀ q, A' q → A q) (h : va_T ty t N f A U H) : va_T ty t N f A' U H := by
  obtain ⟨cell, h1, h2, h3, h4, h5, h6, h7⟩ := h
  exact ⟨cell, h1, h2, h3, h4, h5, h6, fun q => h7 (hA _ q)⟩
theorem va_O.re {E : String} {t : Nat} {A A' : Nat → Prop} {U : State} {H : Heap} (hA : ∀ q, A' q → A q) (h : va_O E t A U H) : va_O E t A' U H := by
  obtain ⟨cell, h1, h2, h3, h4⟩ := h
  exact ⟨cell, h1, h2, h3, fun q => h4 (hA _ q)⟩
theorem va_OF.re {o n d : String} {v : Value} {t : Nat} {A A' : Nat → Prop} {U : State} {H : Heap} (hA : ∀ q, A' q → A q) (h : va_OF o n d v t A U H) : va_OF o n d v t A' U H := by
  obtain ⟨cf, k, i, f, cell, h1, h2, h3, h4, h5, h6⟩ := h
  exact ⟨cf, k, i, f, cell, h1, h2, h3, h4, h5, fun q => h6 (hA _ q)⟩
theorem u_all {s : State} {args : Array Value} (hts : ∀ w ∈ tbl, w.before args s = true) : ∃ D : va_G, ∀ (k : Nat) (q : vw_C), classes[k]? = some q → u_Kn s q.1 q.2.1 q.2.2 (D.1 k) (D.2 k) := by
  have h0 : ∀ ci : Nat, ∃ q : ClassId × (Nat → Nat), ci < 10 → u_Kn s (cnF ci) (ftF ci) (fnF ci) q.1 q.2 := by
    intro ci
    by_cases h : ci < 10
    · obtain ⟨cC, iS, hK⟩ := u_known (n := fnF ci) hts (cls_in ci h) (hts _ (cls_ins ci h))
      exact ⟨(cC, iS), fun _ => hK⟩
    · exact ⟨(0, fun _ => 0), fun q => absurd q h⟩
  obtain ⟨f, hf⟩ := Classical.axiomOfChoice h0
  refine ⟨(fun k => (f k).1, fun k => (f k).2), fun k q hq => ?_⟩
  have hk : k < 10 := (List.getElem?_eq_some_iff.mp hq).1
  rw [cls_at k hk] at hq
  cases hq
  exact hf k hk
/-- the three array classes, and what else the constructors ask -/
theorem arr_all {s : State} {args : Array Value} (hts : ∀ w ∈ lw_tbl, w.before args s = true) : ∃ ct : Nat → ClassId, (∀ (k : Nat) (q : ClassId × FieldType), (tysC ct)[k]? = some q → ArrOfT s q.1 q.2 ∧ va_RA s q.1 q.2) ∧ NsA s := by
  obtain ⟨c0, k0, cc, a1, a2, a3⟩ := Cond.arrayClass_spec (hts _ ws_ac)
  obtain ⟨cm, c1, k1, b1, b2, b3, b4, b5⟩ := Cond.arrayOver_spec (hts _ ws_ao)
  obtain ⟨cC, c2, k2, d1, d2, d3, d4⟩ := arrAA (hts _ ws_ai)
  have a1 : s.vm.findClass "[I" = some c0 := a1
  obtain rfl : cC = c0 := Option.some.inj (d1.symm.trans a1)
  refine ⟨fun i => match i with | 0 => cC | 1 => c1 | _ => c2, fun k q hq => ?_, ?_, ?_, ?_⟩
  · match k, hq with
    | 0, hq => cases hq; exact ⟨fun n z => ⟨fun k h => (by cases h), k0, a2, cc, a3⟩, a1⟩
    | 1, hq => cases hq; exact ⟨fun n z => ⟨fun k h => (by cases h), k1, b3, cm, b4⟩, k1, cm, b3, b4, b1, b5⟩
    | 2, hq => cases hq; exact ⟨fun n z => ⟨fun k h => (by cases h), k2, d2, cC, d3⟩, d4⟩
    | k + 3, hq => simp [tysC] at hq
  · intro x hx
    simp only [nestL, List.mem_cons, List.not_mem_nil, or_false] at hx
    rcases hx with rfl | rfl | rfl | rfl | rfl | rfl | rfl | rfl
    · exact va_Nw.of rfl (hts _ ws_n0)
    · exact va_Nw.of rfl (hts _ ws_n1)
    · exact va_Nw.of rfl (hts _ ws_n2)
    · exact va_Nw.of rfl (hts _ ws_n3)
    · exact va_Nw.of rfl (hts _ ws_n4)
    · exact va_Nw.of rfl (hts _ ws_n5)
    · exact va_Nw.of rfl (hts _ ws_n6)
    · exact va_Nw.of rfl (hts _ ws_n7)
  · exact va_AO.of (hts _ ws_ao)
  · exact ⟨c2, cC, cc, k2, k0, d4, a1, d2, d3, a2, a3⟩
