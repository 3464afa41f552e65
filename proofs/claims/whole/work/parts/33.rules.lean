/-! part 33: conditions of the class: steps that work on a pile of bits -/
def vaL (f : Nat → Nat) (a : Nat) : Nat := if a < 10000 then a else f (a - 10000)
def cmL (s x y : Nat) : Bool := if s = 20 then decide (x < y) else if s = 22 then decide (y < x) else decide (x = y)
/-- the steps at work; none where they are no such steps, or the pile is too high -/
def evL (f : Nat → Nat) : List Nat → Nat → Option Nat
  | [], P => some P
  | s :: t, P =>
    if s = 10 then evL f t (2 * (P / 2) + (1 - P % 2))
    else if s = 11 then evL f t (2 * (P / 4) + (P / 2 % 2) * (P % 2))
    else if s = 12 then evL f t (2 * (P / 4) + (P / 2 % 2 + P % 2 - (P / 2 % 2) * (P % 2)))
    else match t with
      | a :: b :: u => if 20 ≤ s ∧ s ≤ 22 ∧ a < 10005 ∧ b < 10005 ∧ P < 1024 then evL f u (2 * P + (cmL s (vaL f a) (vaL f b)).toNat) else none
      | _ => none
theorem pl_not : ∀ P, P < 2048 → nI P ^^^ 1 = nI (2 * (P / 2) + (1 - P % 2)) := by decide +kernel
theorem pl_and : ∀ P, P < 2048 → ((nI P).toUInt32 >>> ((1 : Int32).toUInt32 &&& Int32.toUInt32 31)).toInt32 &&& ((nI P &&& 1) ||| (-2)) = nI (2 * (P / 4) + (P / 2 % 2) * (P % 2)) := by decide +kernel
theorem pl_or : ∀ P, P < 2048 → ((nI P).toUInt32 >>> ((1 : Int32).toUInt32 &&& Int32.toUInt32 31)).toInt32 ||| (nI P &&& 1) = nI (2 * (P / 4) + (P / 2 % 2 + P % 2 - (P / 2 % 2) * (P % 2))) := by decide +kernel
theorem pl_p1 : ∀ P, P < 1024 → (nI P <<< ((1 : Int32) &&& 31)) ||| 1 = nI (2 * P + 1) := by decide +kernel
theorem pl_p0 : ∀ P, P < 1024 → (nI P <<< ((1 : Int32) &&& 31)) ||| 0 = nI (2 * P + 0) := by decide +kernel
theorem pl_top : ∀ P, P < 2048 → (nI P &&& 1 = 1 ↔ P % 2 = 1) := by decide +kernel
theorem lit_eq {s : Nat} (h : s < 2 ^ 31) (k : Nat) (hk : k < 2 ^ 31) : (nI s = nI k) ↔ s = k := nI_eq h hk
theorem ne_sh {a b : Nat} {u v : Nat × Nat} (ha : sh a = u) (hb : sh b = v) (h : u ≠ v) : a ≠ b := fun e => h (by rw [← ha, ← hb, e])
set_option maxRecDepth 100000 in
set_option maxHeartbeats 2000000 in
/-- the loop of holds -/
theorem hold_loop {X : GX} {d : Nat} {h : Hp} {f : Nat → Nat} {to : Nat} (hto : to ≤ 200) (hf : ∀ j, j < 5 → h 12 j = nI (f j) ∧ f j < 2147483648) : ∀ (n : Nat) (L : List Nat) (i P R : Nat), L.length ≤ n → i + L.length = to → P < 2048 → (∀ j v, L[j]? = some v → h 11 (i + j) = nI v ∧ v < 20000) → evL f L P = some R → (∀ x, x = bI (R % 2 == 1) → RtX X (some (.int x)) h) →
    G X d 27 15 [some (.ref 7), none, some (.int (nI to)), some (.ref 12), some (.int (nI P)), some (.int (nI i)), none, none, none, none, none] [] h := by
  intro n
  induction n with
  | zero =>
    intro L i P R hn hi hP hst hev hq
    match L, hn, hi, hev with
    | [], _, hi, hev =>
      have hR : P = R := Option.some.inj hev
      subst hR
      refine k_27_15 (fun c => ?_) (fun c => absurd (nI_le (by simp at hi; omega) (by omega)) c)
      refine k_27_271 (fun c => ?_) (fun c => ?_)
      · rw [pl_top P hP] at c
        refine k_27_283 (hq _ ?_)
        simp [bI, c]
      · rw [pl_top P hP] at c
        refine k_27_279 (hq _ ?_)
        simp [bI, c]
  | succ n ih =>
    intro L i P R hn hi hP hst hev hq
    match L, hn, hi, hst, hev with
    | [], _, hi, _, hev =>
      have hR : P = R := Option.some.inj hev
      subst hR
      refine k_27_15 (fun c => ?_) (fun c => absurd (nI_le (by simp at hi; omega) (by omega)) c)
      refine k_27_271 (fun c => ?_) (fun c => ?_)
      · rw [pl_top P hP] at c
        refine k_27_283 (hq _ ?_)
        simp [bI, c]
      · rw [pl_top P hP] at c
        refine k_27_279 (hq _ ?_)
        simp [bI, c]
    | s :: t, hn, hi, hst, hev =>
      simp only [List.length_cons] at hn hi
      obtain ⟨hs0, hsv⟩ := hst 0 s rfl
      rw [Nat.add_zero] at hs0
      have hst' : ∀ j v, t[j]? = some v → h 11 (i + 1 + j) = nI v ∧ v < 20000 := fun j v q => by
        have := hst (j + 1) v (by simpa using q)
        rwa [show i + (j + 1) = i + 1 + j by omega] at this
      refine k_27_15 (fun c => absurd c (nI_ge (by omega) (by omega))) (fun _ => ?_)
      have e10 : (nI s = 10) ↔ s = 10 := nI_eq (b := 10) (by omega) (by decide)
      have e11 : (nI s = 11) ↔ s = 11 := nI_eq (b := 11) (by omega) (by decide)
      have e12 : (nI s = 12) ↔ s = 12 := nI_eq (b := 12) (by omega) (by decide)
      refine k_27_21 (IA.of rfl (by omega) (by decide)) (fun c => ?_) (fun c => ?_)
      · rw [nc (by omega), hs0, e10] at c
        rw [nc (by omega), hs0]
        refine k_27_52 (fun c2 => ?_) (fun c2 => ?_)
        · rw [e11] at c2
          refine k_27_74 (fun c3 => ?_) (fun c3 => ?_)
          · rw [e12] at c3
            match t, hn, hi, hst', hst, hev with
            | a :: b :: u, hn, hi, hst', hst, hev =>
              unfold evL at hev
              rw [if_neg c, if_neg c2, if_neg c3] at hev
              by_cases hc : 20 ≤ s ∧ s ≤ 22 ∧ a < 10005 ∧ b < 10005 ∧ P < 1024
              · simp only [hc, and_self, if_true] at hev
                obtain ⟨p1, p2, pa, pb, pP⟩ := hc
                simp only [List.length_cons] at hn hi
                have ha0 := (hst' 0 a rfl).1
                have hb0 := (hst' 1 b rfl).1
                rw [Nat.add_zero] at ha0
                have hu : ∀ j v, u[j]? = some v → h 11 (i + 3 + j) = nI v ∧ v < 20000 := fun j v q => by
                  have := hst' (j + 2) v (by simpa using q)
                  rwa [show i + 1 + (j + 2) = i + 3 + j by omega] at this
                have ei1 : nI i + 1 = nI (i + 1) := nI_1 i
                have ei2 : nI i + 2 = nI (i + 2) := nI_add i 2
                have ei3 : nI i + 2 + 1 = nI (i + 3) := by rw [ei2]; exact nI_1 (i + 2)
                have key : ∀ c : Bool, c = cmL s (vaL f a) (vaL f b) → G X d 27 15 [some (.ref 7), none, some (.int (nI to)), some (.ref 12), some (.int (nI (2 * P + c.toNat))), some (.int (nI i + 2 + 1)), none, none, none, none, none] [] h := by
                  intro c hc
                  rw [ei3]
                  refine ih u (i + 3) _ R (by omega) (by omega) ?_ hu (by rw [hc]; exact hev) hq
                  cases c <;> simp <;> omega
                have k1 : cmL s (vaL f a) (vaL f b) = true → G X d 27 15 [some (.ref 7), none, some (.int (nI to)), some (.ref 12), some (.int ((nI P <<< ((1 : Int32) &&& 31)) ||| 1)), some (.int (nI i + 2 + 1)), none, none, none, none, none] [] h := fun q => by
                  rw [pl_p1 P pP]; exact key true q.symm
                have k0 : cmL s (vaL f a) (vaL f b) = false → G X d 27 15 [some (.ref 7), none, some (.int (nI to)), some (.ref 12), some (.int ((nI P <<< ((1 : Int32) &&& 31)) ||| 0)), some (.int (nI i + 2 + 1)), none, none, none, none, none] [] h := fun q => by
                  rw [pl_p0 P pP]; exact key false q.symm
                have e20 : (nI s = 20) ↔ s = 20 := nI_eq (b := 20) (by omega) (by decide)
                have e22 : (nI s = 22) ↔ s = 22 := nI_eq (b := 22) (by omega) (by decide)
                have hva : vaL f a < 2147483648 := by
                  unfold vaL
                  split
                  · omega
                  · exact (hf (a - 10000) (by omega)).2
                have hvb : vaL f b < 2147483648 := by
                  unfold vaL
                  split
                  · omega
                  · exact (hf (b - 10000) (by omega)).2
                have fin : ∀ x y : Nat, x < 2147483648 → y < 2147483648 → cmL s x y = cmL s (vaL f a) (vaL f b) → ∀ v10 : Int32, (v10 = 1 ∧ x = y ∨ v10 = 0 ∧ ¬ x = y) →
                    (¬ nI s = 20 → G X d 27 224 [some (.ref 7), none, some (.int (nI to)), some (.ref 12), some (.int (nI P)), some (.int (nI i)), some (.int (nI s)), none, some (.int (nI x)), some (.int (nI y)), some (.int v10)] [] h) ∧ (nI s = 20 → G X d 27 210 [some (.ref 7), none, some (.int (nI to)), some (.ref 12), some (.int (nI P)), some (.int (nI i)), some (.int (nI s)), none, some (.int (nI x)), some (.int (nI y)), none] [] h) := by
                  intro x y hx hy hxy v10 hv
                  refine ⟨fun c20 => ?_, fun c20 => ?_⟩
                  · rw [e20] at c20
                    refine k_27_224 (fun c22 => ?_) (fun c22 => ?_)
                    · rw [e22] at c22
                      have hs21 : cmL s x y = decide (x = y) := by unfold cmL; rw [if_neg c20, if_neg c22]
                      rcases hv with ⟨rfl, hv⟩ | ⟨rfl, hv⟩
                      · refine k_27_245 (fun q => absurd q (by decide)) (fun _ => k_27_254 (k1 ?_))
                        rw [← hxy, hs21]; simp [hv]
                      · refine k_27_245 (fun _ => k_27_258 (k0 ?_)) (fun q => absurd rfl q)
                        rw [← hxy, hs21]; simp [hv]
                    · rw [e22] at c22
                      have hs22 : cmL s x y = decide (y < x) := by unfold cmL; rw [if_neg c20, if_pos c22]
                      refine k_27_231 (fun c => ?_) (fun c => ?_)
                      · rw [nI_leI hx hy] at c
                        refine k_27_242 (k0 ?_)
                        rw [← hxy, hs22]; simp; omega
                      · rw [nI_leI hx hy] at c
                        refine k_27_238 (k1 ?_)
                        rw [← hxy, hs22]; simp; omega
                  · rw [e20] at c20
                    have hs20 : cmL s x y = decide (x < y) := by unfold cmL; rw [if_pos c20]
                    refine k_27_210 (fun c => ?_) (fun c => ?_)
                    · rw [nI_leI hy hx] at c
                      refine k_27_221 (fun _ => ?_) (fun q => absurd ((e22.mp q).symm.trans c20) (by decide))
                      refine k_27_245 (fun _ => k_27_258 (k0 ?_)) (fun q => absurd rfl q)
                      rw [← hxy, hs20]; simp; omega
                    · rw [nI_leI hy hx] at c
                      refine k_27_217 (fun _ => ?_) (fun q => absurd ((e22.mp q).symm.trans c20) (by decide))
                      refine k_27_245 (fun q => absurd q (by decide)) (fun _ => k_27_254 (k1 ?_))
                      rw [← hxy, hs20]; simp; omega
                have fin2 : G X d 27 196 [some (.ref 7), none, some (.int (nI to)), some (.ref 12), some (.int (nI P)), some (.int (nI i)), some (.int (nI s)), none, some (.int (nI (vaL f a))), some (.int (nI (vaL f b))), none] [] h ∨ ¬ vaL f a = vaL f b := by
                  by_cases q : vaL f a = vaL f b
                  · have := fin _ _ hva hvb rfl 1 (Or.inl ⟨rfl, q⟩)
                    exact Or.inl (k_27_196 this.1 this.2)
                  · exact Or.inr q
                have fin3 : ¬ vaL f a = vaL f b → G X d 27 200 [some (.ref 7), none, some (.int (nI to)), some (.ref 12), some (.int (nI P)), some (.int (nI i)), some (.int (nI s)), none, some (.int (nI (vaL f a))), some (.int (nI (vaL f b))), none] [] h := fun q => by
                  have := fin _ _ hva hvb rfl 0 (Or.inr ⟨rfl, q⟩)
                  exact k_27_200 this.1 this.2
                have eab : (nI (vaL f a) = nI (vaL f b)) ↔ vaL f a = vaL f b := nI_eq hva hvb
                refine k_27_93 (fun c => absurd c (by rw [ei2]; exact nI_ge (by omega) (by omega))) (fun _ => ?_)
                have hA : h 11 (Int32.toNatClampNeg (nI i + 1)) = nI a := by rw [ei1, nc (by omega), ha0]
                have hB : h 11 (Int32.toNatClampNeg (nI i + 2)) = nI b := by rw [ei2, nc (by omega)]; exact hb0
                have iA1 : IA 11 (nI i + 1) := by rw [ei1]; exact IA.of rfl (by omega) (by decide)
                have iA2 : IA 11 (nI i + 2) := by rw [ei2]; exact IA.of rfl (by omega) (by decide)
                have la : (10000 ≤ nI a) ↔ 10000 ≤ a := nI_leI (a := 10000) (by decide) (by omega)
                have lb : (10000 ≤ nI b) ↔ 10000 ≤ b := nI_leI (a := 10000) (by decide) (by omega)
                have sa : 10000 ≤ a → nI a - 10000 = nI (a - 10000) := fun q => pk_sub (b := 10000) q
                have sb : 10000 ≤ b → nI b - 10000 = nI (b - 10000) := fun q => pk_sub (b := 10000) q
                have second : ∀ v8 : Int32, v8 = nI (vaL f a) → (10000 ≤ h 11 (Int32.toNatClampNeg (nI i + 2)) → G X d 27 172 [some (.ref 7), none, some (.int (nI to)), some (.ref 12), some (.int (nI P)), some (.int (nI i)), some (.int (nI s)), none, some (.int v8), none, none] [] h) ∧ (¬ 10000 ≤ h 11 (Int32.toNatClampNeg (nI i + 2)) → G X d 27 160 [some (.ref 7), none, some (.int (nI to)), some (.ref 12), some (.int (nI P)), some (.int (nI i)), some (.int (nI s)), none, some (.int v8), none, none] [] h) := by
                  intro v8 hv8
                  subst hv8
                  refine ⟨fun cb => ?_, fun cb => ?_⟩
                  · rw [hB, lb] at cb
                    have hv : h 12 (Int32.toNatClampNeg (h 11 (Int32.toNatClampNeg (nI i + 2)) - 10000)) = nI (vaL f b) := by
                      rw [hB, sb cb, nc (by omega), (hf (b - 10000) (by omega)).1]
                      unfold vaL
                      rw [if_neg (by omega)]
                    have i2 : IA 12 (h 11 (Int32.toNatClampNeg (nI i + 2)) - 10000) := by
                      rw [hB, sb cb]; exact IA.of rfl (by omega) (by decide)
                    refine k_27_172 iA2 i2 (fun c => ?_) (fun c => ?_)
                    · rw [hv, eab] at c
                      rw [hv]
                      exact fin3 c
                    · rw [hv, eab] at c
                      rw [hv]
                      exact fin2.resolve_right (fun q => q c)
                  · rw [hB, lb] at cb
                    have hv : h 11 (Int32.toNatClampNeg (nI i + 2)) = nI (vaL f b) := by
                      rw [hB]
                      unfold vaL
                      rw [if_pos (by omega)]
                    refine k_27_160 iA2 (fun c => ?_) (fun c => ?_)
                    · rw [hv, eab] at c
                      rw [hv]
                      exact fin3 c
                    · rw [hv, eab] at c
                      rw [hv]
                      exact fin2.resolve_right (fun q => q c)
                refine k_27_101 iA1 (fun ca => ?_) (fun ca => ?_)
                · rw [hA, la] at ca
                  have hv : h 12 (Int32.toNatClampNeg (h 11 (Int32.toNatClampNeg (nI i + 1)) - 10000)) = nI (vaL f a) := by
                    rw [hA, sa ca, nc (by omega), (hf (a - 10000) (by omega)).1]
                    unfold vaL
                    rw [if_neg (by omega)]
                  have i2 : IA 12 (h 11 (Int32.toNatClampNeg (nI i + 1)) - 10000) := by
                    rw [hA, sa ca]; exact IA.of rfl (by omega) (by decide)
                  have := second _ hv
                  exact k_27_128 iA1 i2 iA2 this.1 this.2
                · rw [hA, la] at ca
                  have hv : h 11 (Int32.toNatClampNeg (nI i + 1)) = nI (vaL f a) := by
                    rw [hA]
                    unfold vaL
                    rw [if_pos (by omega)]
                  have := second _ hv
                  exact k_27_116 iA1 iA2 this.1 this.2
              · simp only [hc, if_false] at hev
                cases hev
            | [], _, _, _, _, hev =>
              unfold evL at hev
              rw [if_neg c, if_neg c2, if_neg c3] at hev
              cases hev
            | [_], _, _, _, _, hev =>
              unfold evL at hev
              rw [if_neg c, if_neg c2, if_neg c3] at hev
              cases hev
          · rw [e12] at c3
            unfold evL at hev
            rw [if_neg c, if_neg c2, if_pos c3] at hev
            refine k_27_81 ?_
            rw [pl_or P hP, nI_1]
            refine ih t (i + 1) _ R (by omega) (by omega) ?_ hst' hev hq
            have : P / 2 % 2 = 0 ∨ P / 2 % 2 = 1 := by omega
            rcases this with q | q <;> rw [q] <;> omega
        · rw [e11] at c2
          unfold evL at hev
          rw [if_neg c, if_pos c2] at hev
          refine k_27_59 ?_
          rw [pl_and P hP, nI_1]
          refine ih t (i + 1) _ R (by omega) (by omega) ?_ hst' hev hq
          have : P / 2 % 2 = 0 ∨ P / 2 % 2 = 1 := by omega
          rcases this with q | q <;> rw [q] <;> omega
      · rw [nc (by omega), hs0, e10] at c
        unfold evL at hev
        rw [if_pos c] at hev
        refine k_27_43 ?_
        rw [pl_not P hP, nI_1]
        exact ih t (i + 1) _ R (by omega) (by omega) (by omega) hst' hev hq
