/-! part 99q: the law, call by call -/
theorem lc_0 {X : GX} {h : Hp} {L i : Nat} {xs : Nat → Int32} (hX : X.2.2.2.2 = some (L, xs)) (vb : ∀ k, k < 5 → vp_in (nI i + nI k) L) (I : Inv h) (nx : ∀ h', Inv h' → G X 300 295 1735 [some (.ref 999), some (.ref 0), some (.ref 84), some (.int (nI i))] [] h') : G X 300 295 252 [some (.ref 999), some (.ref 0), some (.ref 84), some (.int (nI i))] [] h := by
  obtain ⟨x, h1, h2, e1, e2, I2⟩ := p_scene h I
  refine k_295_252 hX (vb 1 (by decide)) (vb 2 (by decide)) (vb 3 (by decide)) (vb 4 (by decide)) (by decide) (t_10 e1) (fun x' h' q => ?_)
  obtain ⟨rfl, rfl⟩ := q
  refine k_295_276 hX (vb 1 (by decide)) (vb 2 (by decide)) (vb 3 (by decide)) (vb 4 (by decide)) (by decide) (t_176 e2) (fun x' h' q => ?_)
  obtain ⟨rfl, rfl⟩ := q
  exact k_295_300 hX (fun _ => nx _ I2) (fun q => absurd rfl q)
theorem lc_1 {X : GX} {h : Hp} {L i : Nat} {xs : Nat → Int32} (hX : X.2.2.2.2 = some (L, xs)) (vb : ∀ k, k < 5 → vp_in (nI i + nI k) L) (I : Inv h) (nx : ∀ h', Inv h' → G X 300 295 1735 [some (.ref 999), some (.ref 0), some (.ref 84), some (.int (nI i))] [] h') : G X 300 295 305 [some (.ref 999), some (.ref 0), some (.ref 84), some (.int (nI i))] [] h := by
  obtain ⟨x, h1, h2, e1, e2, I2⟩ := p_sceneOf h I
  refine k_295_305 hX (vb 1 (by decide)) (vb 2 (by decide)) (by decide) (t_13 e1) (fun x' h' q => ?_)
  obtain ⟨rfl, rfl⟩ := q
  refine k_295_319 hX (vb 1 (by decide)) (vb 2 (by decide)) (by decide) (t_179 e2) (fun x' h' q => ?_)
  obtain ⟨rfl, rfl⟩ := q
  exact k_295_333 hX (fun _ => nx _ I2) (fun q => absurd rfl q)
theorem lc_2 {X : GX} {h : Hp} {L i : Nat} {xs : Nat → Int32} (hX : X.2.2.2.2 = some (L, xs)) (vb : ∀ k, k < 5 → vp_in (nI i + nI k) L) (I : Inv h) (nx : ∀ h', Inv h' → G X 300 295 1735 [some (.ref 999), some (.ref 0), some (.ref 84), some (.int (nI i))] [] h') : G X 300 295 338 [some (.ref 999), some (.ref 0), some (.ref 84), some (.int (nI i))] [] h := by
  obtain ⟨x, h1, h2, e1, e2, I2⟩ := p_change h I
  refine k_295_338 hX (vb 1 (by decide)) (vb 2 (by decide)) (vb 3 (by decide)) (by decide) (t_28 e1) (fun x' h' q => ?_)
  obtain ⟨rfl, rfl⟩ := q
  refine k_295_357 hX (vb 1 (by decide)) (vb 2 (by decide)) (vb 3 (by decide)) (by decide) (t_196 e2) (fun x' h' q => ?_)
  obtain ⟨rfl, rfl⟩ := q
  exact k_295_376 hX (fun _ => nx _ I2) (fun q => absurd rfl q)
theorem lc_3 {X : GX} {h : Hp} {L i : Nat} {xs : Nat → Int32} (hX : X.2.2.2.2 = some (L, xs)) (vb : ∀ k, k < 5 → vp_in (nI i + nI k) L) (I : Inv h) (nx : ∀ h', Inv h' → G X 300 295 1735 [some (.ref 999), some (.ref 0), some (.ref 84), some (.int (nI i))] [] h') : G X 300 295 381 [some (.ref 999), some (.ref 0), some (.ref 84), some (.int (nI i))] [] h := by
  obtain ⟨x, h1, h2, e1, e2, I2⟩ := p_remake h I
  refine k_295_381 hX (vb 1 (by decide)) (vb 2 (by decide)) (by decide) (t_31 e1) (fun x' h' q => ?_)
  obtain ⟨rfl, rfl⟩ := q
  refine k_295_395 hX (vb 1 (by decide)) (vb 2 (by decide)) (by decide) (t_198 e2) (fun x' h' q => ?_)
  obtain ⟨rfl, rfl⟩ := q
  exact k_295_409 hX (fun _ => nx _ I2) (fun q => absurd rfl q)
theorem lc_4 {X : GX} {h : Hp} {L i : Nat} {xs : Nat → Int32} (hX : X.2.2.2.2 = some (L, xs)) (vb : ∀ k, k < 5 → vp_in (nI i + nI k) L) (I : Inv h) (nx : ∀ h', Inv h' → G X 300 295 1735 [some (.ref 999), some (.ref 0), some (.ref 84), some (.int (nI i))] [] h') : G X 300 295 414 [some (.ref 999), some (.ref 0), some (.ref 84), some (.int (nI i))] [] h := by
  obtain ⟨x, h1, h2, e1, e2, I2⟩ := p_house h I
  refine k_295_414 hX (vb 1 (by decide)) (vb 2 (by decide)) (by decide) (t_32 e1) (fun x' h' q => ?_)
  obtain ⟨rfl, rfl⟩ := q
  refine k_295_428 hX (vb 1 (by decide)) (vb 2 (by decide)) (by decide) (t_199 e2) (fun x' h' q => ?_)
  obtain ⟨rfl, rfl⟩ := q
  exact k_295_442 hX (fun _ => nx _ I2) (fun q => absurd rfl q)
theorem lc_5 {X : GX} {h : Hp} {L i : Nat} {xs : Nat → Int32} (hX : X.2.2.2.2 = some (L, xs)) (vb : ∀ k, k < 5 → vp_in (nI i + nI k) L) (I : Inv h) (nx : ∀ h', Inv h' → G X 300 295 1735 [some (.ref 999), some (.ref 0), some (.ref 84), some (.int (nI i))] [] h') : G X 300 295 447 [some (.ref 999), some (.ref 0), some (.ref 84), some (.int (nI i))] [] h := by
  obtain ⟨x, h1, h2, e1, e2, I2⟩ := p_place h I
  refine k_295_447 hX (vb 1 (by decide)) (vb 2 (by decide)) (vb 3 (by decide)) (by decide) (t_33 e1) (fun x' h' q => ?_)
  obtain ⟨rfl, rfl⟩ := q
  refine k_295_466 hX (vb 1 (by decide)) (vb 2 (by decide)) (vb 3 (by decide)) (by decide) (t_200 e2) (fun x' h' q => ?_)
  obtain ⟨rfl, rfl⟩ := q
  exact k_295_485 hX (fun _ => nx _ I2) (fun q => absurd rfl q)
theorem lc_6 {X : GX} {h : Hp} {L i : Nat} {xs : Nat → Int32} (hX : X.2.2.2.2 = some (L, xs)) (vb : ∀ k, k < 5 → vp_in (nI i + nI k) L) (I : Inv h) (nx : ∀ h', Inv h' → G X 300 295 1735 [some (.ref 999), some (.ref 0), some (.ref 84), some (.int (nI i))] [] h') : G X 300 295 490 [some (.ref 999), some (.ref 0), some (.ref 84), some (.int (nI i))] [] h := by
  obtain ⟨x, h1, h2, e1, e2, I2⟩ := p_placeOf h I
  refine k_295_490 hX (vb 1 (by decide)) (vb 2 (by decide)) (by decide) (t_34 e1) (fun x' h' q => ?_)
  obtain ⟨rfl, rfl⟩ := q
  refine k_295_504 hX (vb 1 (by decide)) (vb 2 (by decide)) (by decide) (t_201 e2) (fun x' h' q => ?_)
  obtain ⟨rfl, rfl⟩ := q
  exact k_295_518 hX (fun _ => nx _ I2) (fun q => absurd rfl q)
theorem lc_7 {X : GX} {h : Hp} {L i : Nat} {xs : Nat → Int32} (hX : X.2.2.2.2 = some (L, xs)) (vb : ∀ k, k < 5 → vp_in (nI i + nI k) L) (I : Inv h) (nx : ∀ h', Inv h' → G X 300 295 1735 [some (.ref 999), some (.ref 0), some (.ref 84), some (.int (nI i))] [] h') : G X 300 295 523 [some (.ref 999), some (.ref 0), some (.ref 84), some (.int (nI i))] [] h := by
  obtain ⟨x, h1, h2, e1, e2, I2⟩ := p_ends h I
  refine k_295_523 hX (vb 1 (by decide)) (by decide) (t_35 e1) (fun x' h' q => ?_)
  obtain ⟨rfl, rfl⟩ := q
  refine k_295_532 hX (vb 1 (by decide)) (by decide) (t_202 e2) (fun x' h' q => ?_)
  obtain ⟨rfl, rfl⟩ := q
  exact k_295_541 hX (fun _ => nx _ I2) (fun q => absurd rfl q)
theorem lc_8 {X : GX} {h : Hp} {L i : Nat} {xs : Nat → Int32} (hX : X.2.2.2.2 = some (L, xs)) (vb : ∀ k, k < 5 → vp_in (nI i + nI k) L) (I : Inv h) (nx : ∀ h', Inv h' → G X 300 295 1735 [some (.ref 999), some (.ref 0), some (.ref 84), some (.int (nI i))] [] h') : G X 300 295 546 [some (.ref 999), some (.ref 0), some (.ref 84), some (.int (nI i))] [] h := by
  obtain ⟨x, h1, h2, e1, e2, I2⟩ := p_anew h I
  refine k_295_546 hX (by decide) (t_36 e1) (fun x' h' q => ?_)
  obtain ⟨rfl, rfl⟩ := q
  refine k_295_550 hX (by decide) (t_203 e2) (fun x' h' q => ?_)
  obtain ⟨rfl, rfl⟩ := q
  exact k_295_554 hX (fun _ => nx _ I2) (fun q => absurd rfl q)
theorem lc_9 {X : GX} {h : Hp} {L i : Nat} {xs : Nat → Int32} (hX : X.2.2.2.2 = some (L, xs)) (vb : ∀ k, k < 5 → vp_in (nI i + nI k) L) (I : Inv h) (nx : ∀ h', Inv h' → G X 300 295 1735 [some (.ref 999), some (.ref 0), some (.ref 84), some (.int (nI i))] [] h') : G X 300 295 559 [some (.ref 999), some (.ref 0), some (.ref 84), some (.int (nI i))] [] h := by
  obtain ⟨x, h1, h2, e1, e2, I2⟩ := p_state h I
  refine k_295_559 hX (vb 1 (by decide)) (by decide) (t_37 e1) (fun x' h' q => ?_)
  obtain ⟨rfl, rfl⟩ := q
  refine k_295_568 hX (vb 1 (by decide)) (by decide) (t_204 e2) (fun x' h' q => ?_)
  obtain ⟨rfl, rfl⟩ := q
  exact k_295_577 hX (fun _ => nx _ I2) (fun q => absurd rfl q)
theorem lc_10 {X : GX} {h : Hp} {L i : Nat} {xs : Nat → Int32} (hX : X.2.2.2.2 = some (L, xs)) (vb : ∀ k, k < 5 → vp_in (nI i + nI k) L) (I : Inv h) (nx : ∀ h', Inv h' → G X 300 295 1735 [some (.ref 999), some (.ref 0), some (.ref 84), some (.int (nI i))] [] h') : G X 300 295 582 [some (.ref 999), some (.ref 0), some (.ref 84), some (.int (nI i))] [] h := by
  obtain ⟨x, h1, h2, e1, e2, I2⟩ := p_feed h I
  refine k_295_582 hX (vb 1 (by decide)) (vb 2 (by decide)) (vb 3 (by decide)) (by decide) (t_41 e1) (fun x' h' q => ?_)
  obtain ⟨rfl, rfl⟩ := q
  refine k_295_611 hX (vb 1 (by decide)) (vb 2 (by decide)) (vb 3 (by decide)) (by decide) (t_208 e2) (fun x' h' q => ?_)
  obtain ⟨rfl, rfl⟩ := q
  exact k_295_640 hX (fun _ => nx _ I2) (fun q => absurd rfl q)
theorem lc_11 {X : GX} {h : Hp} {L i : Nat} {xs : Nat → Int32} (hX : X.2.2.2.2 = some (L, xs)) (vb : ∀ k, k < 5 → vp_in (nI i + nI k) L) (I : Inv h) (nx : ∀ h', Inv h' → G X 300 295 1735 [some (.ref 999), some (.ref 0), some (.ref 84), some (.int (nI i))] [] h') : G X 300 295 645 [some (.ref 999), some (.ref 0), some (.ref 84), some (.int (nI i))] [] h := by
  obtain ⟨x, h1, h2, e1, e2, I2⟩ := p_rules h I
  refine k_295_645 hX (by decide) (t_44 e1) (fun x' h' q => ?_)
  obtain ⟨rfl, rfl⟩ := q
  refine k_295_649 hX (by decide) (t_209 e2) (fun x' h' q => ?_)
  obtain ⟨rfl, rfl⟩ := q
  exact k_295_653 hX (fun _ => nx _ I2) (fun q => absurd rfl q)
theorem lc_12 {X : GX} {h : Hp} {L i : Nat} {xs : Nat → Int32} (hX : X.2.2.2.2 = some (L, xs)) (vb : ∀ k, k < 5 → vp_in (nI i + nI k) L) (I : Inv h) (nx : ∀ h', Inv h' → G X 300 295 1735 [some (.ref 999), some (.ref 0), some (.ref 84), some (.int (nI i))] [] h') : G X 300 295 658 [some (.ref 999), some (.ref 0), some (.ref 84), some (.int (nI i))] [] h := by
  obtain ⟨x, h1, h2, e1, e2, I2⟩ := p_night h I
  refine k_295_658 hX (by decide) (t_79 e1) (fun x' h' q => ?_)
  obtain ⟨rfl, rfl⟩ := q
  refine k_295_662 hX (by decide) (t_224 e2) (fun x' h' q => ?_)
  obtain ⟨rfl, rfl⟩ := q
  exact k_295_666 hX (fun _ => nx _ I2) (fun q => absurd rfl q)
theorem lc_13 {X : GX} {h : Hp} {L i : Nat} {xs : Nat → Int32} (hX : X.2.2.2.2 = some (L, xs)) (vb : ∀ k, k < 5 → vp_in (nI i + nI k) L) (I : Inv h) (nx : ∀ h', Inv h' → G X 300 295 1735 [some (.ref 999), some (.ref 0), some (.ref 84), some (.int (nI i))] [] h') : G X 300 295 671 [some (.ref 999), some (.ref 0), some (.ref 84), some (.int (nI i))] [] h := by
  obtain ⟨x, h1, h2, e1, e2, I2⟩ := p_on h I
  refine k_295_671 hX (vb 1 (by decide)) (by decide) (t_85 e1) (fun x' h' q => ?_)
  obtain ⟨rfl, rfl⟩ := q
  refine k_295_680 hX (vb 1 (by decide)) (by decide) (t_228 e2) (fun x' h' q => ?_)
  obtain ⟨rfl, rfl⟩ := q
  exact k_295_689 hX (fun _ => nx _ I2) (fun q => absurd rfl q)
theorem lc_14 {X : GX} {h : Hp} {L i : Nat} {xs : Nat → Int32} (hX : X.2.2.2.2 = some (L, xs)) (vb : ∀ k, k < 5 → vp_in (nI i + nI k) L) (I : Inv h) (nx : ∀ h', Inv h' → G X 300 295 1735 [some (.ref 999), some (.ref 0), some (.ref 84), some (.int (nI i))] [] h') : G X 300 295 694 [some (.ref 999), some (.ref 0), some (.ref 84), some (.int (nI i))] [] h := by
  obtain ⟨x, h1, h2, e1, e2, I2⟩ := p_when h I
  refine k_295_694 hX (vb 1 (by decide)) (by decide) (t_89 e1) (fun x' h' q => ?_)
  obtain ⟨rfl, rfl⟩ := q
  refine k_295_703 hX (vb 1 (by decide)) (by decide) (t_233 e2) (fun x' h' q => ?_)
  obtain ⟨rfl, rfl⟩ := q
  exact k_295_712 hX (fun _ => nx _ I2) (fun q => absurd rfl q)
theorem lc_15 {X : GX} {h : Hp} {L i : Nat} {xs : Nat → Int32} (hX : X.2.2.2.2 = some (L, xs)) (vb : ∀ k, k < 5 → vp_in (nI i + nI k) L) (I : Inv h) (nx : ∀ h', Inv h' → G X 300 295 1735 [some (.ref 999), some (.ref 0), some (.ref 84), some (.int (nI i))] [] h') : G X 300 295 717 [some (.ref 999), some (.ref 0), some (.ref 84), some (.int (nI i))] [] h := by
  obtain ⟨x, h1, h2, e1, e2, I2⟩ := p_prettyFor h I
  refine k_295_717 hX (vb 1 (by decide)) (by decide) (t_91 e1) (fun x' h' q => ?_)
  obtain ⟨rfl, rfl⟩ := q
  refine k_295_726 hX (vb 1 (by decide)) (by decide) (t_234 e2) (fun x' h' q => ?_)
  obtain ⟨rfl, rfl⟩ := q
  exact k_295_735 hX (fun _ => nx _ I2) (fun q => absurd rfl q)
theorem lc_16 {X : GX} {h : Hp} {L i : Nat} {xs : Nat → Int32} (hX : X.2.2.2.2 = some (L, xs)) (vb : ∀ k, k < 5 → vp_in (nI i + nI k) L) (I : Inv h) (nx : ∀ h', Inv h' → G X 300 295 1735 [some (.ref 999), some (.ref 0), some (.ref 84), some (.int (nI i))] [] h') : G X 300 295 740 [some (.ref 999), some (.ref 0), some (.ref 84), some (.int (nI i))] [] h := by
  obtain ⟨x, h1, h2, e1, e2, I2⟩ := p_placeFor h I
  refine k_295_740 hX (vb 1 (by decide)) (by decide) (t_93 e1) (fun x' h' q => ?_)
  obtain ⟨rfl, rfl⟩ := q
  refine k_295_749 hX (vb 1 (by decide)) (by decide) (t_236 e2) (fun x' h' q => ?_)
  obtain ⟨rfl, rfl⟩ := q
  exact k_295_758 hX (fun _ => nx _ I2) (fun q => absurd rfl q)
theorem lc_17 {X : GX} {h : Hp} {L i : Nat} {xs : Nat → Int32} (hX : X.2.2.2.2 = some (L, xs)) (vb : ∀ k, k < 5 → vp_in (nI i + nI k) L) (I : Inv h) (nx : ∀ h', Inv h' → G X 300 295 1735 [some (.ref 999), some (.ref 0), some (.ref 84), some (.int (nI i))] [] h') : G X 300 295 763 [some (.ref 999), some (.ref 0), some (.ref 84), some (.int (nI i))] [] h := by
  obtain ⟨x, h1, h2, e1, e2, I2⟩ := p_truth h I
  refine k_295_763 hX (vb 1 (by decide)) (by decide) (t_94 e1) (fun x' h' q => ?_)
  obtain ⟨rfl, rfl⟩ := q
  refine k_295_772 hX (vb 1 (by decide)) (by decide) (t_237 e2) (fun x' h' q => ?_)
  obtain ⟨rfl, rfl⟩ := q
  exact k_295_781 hX (fun _ => nx _ I2) (fun q => absurd rfl q)
theorem lc_18 {X : GX} {h : Hp} {L i : Nat} {xs : Nat → Int32} (hX : X.2.2.2.2 = some (L, xs)) (vb : ∀ k, k < 5 → vp_in (nI i + nI k) L) (I : Inv h) (nx : ∀ h', Inv h' → G X 300 295 1735 [some (.ref 999), some (.ref 0), some (.ref 84), some (.int (nI i))] [] h') : G X 300 295 786 [some (.ref 999), some (.ref 0), some (.ref 84), some (.int (nI i))] [] h := by
  obtain ⟨x, h1, h2, e1, e2, I2⟩ := p_props h I
  refine k_295_786 hX (vb 1 (by decide)) (by decide) (t_96 e1) (fun x' h' q => ?_)
  obtain ⟨rfl, rfl⟩ := q
  refine k_295_795 hX (vb 1 (by decide)) (by decide) (t_238 e2) (fun x' h' q => ?_)
  obtain ⟨rfl, rfl⟩ := q
  exact k_295_804 hX (fun _ => nx _ I2) (fun q => absurd rfl q)
theorem lc_19 {X : GX} {h : Hp} {L i : Nat} {xs : Nat → Int32} (hX : X.2.2.2.2 = some (L, xs)) (vb : ∀ k, k < 5 → vp_in (nI i + nI k) L) (I : Inv h) (nx : ∀ h', Inv h' → G X 300 295 1735 [some (.ref 999), some (.ref 0), some (.ref 84), some (.int (nI i))] [] h') : G X 300 295 809 [some (.ref 999), some (.ref 0), some (.ref 84), some (.int (nI i))] [] h := by
  obtain ⟨x, h1, h2, e1, e2, I2⟩ := p_strands h I
  refine k_295_809 hX (vb 1 (by decide)) (by decide) (t_98 e1) (fun x' h' q => ?_)
  obtain ⟨rfl, rfl⟩ := q
  refine k_295_818 hX (vb 1 (by decide)) (by decide) (t_240 e2) (fun x' h' q => ?_)
  obtain ⟨rfl, rfl⟩ := q
  exact k_295_827 hX (fun _ => nx _ I2) (fun q => absurd rfl q)
theorem lc_20 {X : GX} {h : Hp} {L i : Nat} {xs : Nat → Int32} (hX : X.2.2.2.2 = some (L, xs)) (vb : ∀ k, k < 5 → vp_in (nI i + nI k) L) (I : Inv h) (nx : ∀ h', Inv h' → G X 300 295 1735 [some (.ref 999), some (.ref 0), some (.ref 84), some (.int (nI i))] [] h') : G X 300 295 832 [some (.ref 999), some (.ref 0), some (.ref 84), some (.int (nI i))] [] h := by
  obtain ⟨x, h1, h2, e1, e2, I2⟩ := p_billing h I
  refine k_295_832 hX (vb 1 (by decide)) (by decide) (t_104 e1) (fun x' h' q => ?_)
  obtain ⟨rfl, rfl⟩ := q
  refine k_295_841 hX (vb 1 (by decide)) (by decide) (t_244 e2) (fun x' h' q => ?_)
  obtain ⟨rfl, rfl⟩ := q
  exact k_295_850 hX (fun _ => nx _ I2) (fun q => absurd rfl q)
theorem lc_21 {X : GX} {h : Hp} {L i : Nat} {xs : Nat → Int32} (hX : X.2.2.2.2 = some (L, xs)) (vb : ∀ k, k < 5 → vp_in (nI i + nI k) L) (I : Inv h) (nx : ∀ h', Inv h' → G X 300 295 1735 [some (.ref 999), some (.ref 0), some (.ref 84), some (.int (nI i))] [] h') : G X 300 295 855 [some (.ref 999), some (.ref 0), some (.ref 84), some (.int (nI i))] [] h := by
  obtain ⟨x, h1, h2, e1, e2, I2⟩ := p_best h I
  refine k_295_855 hX (vb 1 (by decide)) (by decide) (t_107 e1) (fun x' h' q => ?_)
  obtain ⟨rfl, rfl⟩ := q
  refine k_295_864 hX (vb 1 (by decide)) (by decide) (t_246 e2) (fun x' h' q => ?_)
  obtain ⟨rfl, rfl⟩ := q
  exact k_295_873 hX (fun _ => nx _ I2) (fun q => absurd rfl q)
theorem lc_22 {X : GX} {h : Hp} {L i : Nat} {xs : Nat → Int32} (hX : X.2.2.2.2 = some (L, xs)) (vb : ∀ k, k < 5 → vp_in (nI i + nI k) L) (I : Inv h) (nx : ∀ h', Inv h' → G X 300 295 1735 [some (.ref 999), some (.ref 0), some (.ref 84), some (.int (nI i))] [] h') : G X 300 295 878 [some (.ref 999), some (.ref 0), some (.ref 84), some (.int (nI i))] [] h := by
  obtain ⟨x, h1, h2, e1, e2, I2⟩ := p_ith h I
  refine k_295_878 hX (vb 1 (by decide)) (vb 2 (by decide)) (by decide) (t_113 e1) (fun x' h' q => ?_)
  obtain ⟨rfl, rfl⟩ := q
  refine k_295_892 hX (vb 1 (by decide)) (vb 2 (by decide)) (by decide) (t_252 e2) (fun x' h' q => ?_)
  obtain ⟨rfl, rfl⟩ := q
  exact k_295_906 hX (fun _ => nx _ I2) (fun q => absurd rfl q)
theorem lc_23 {X : GX} {h : Hp} {L i : Nat} {xs : Nat → Int32} (hX : X.2.2.2.2 = some (L, xs)) (vb : ∀ k, k < 5 → vp_in (nI i + nI k) L) (I : Inv h) (nx : ∀ h', Inv h' → G X 300 295 1735 [some (.ref 999), some (.ref 0), some (.ref 84), some (.int (nI i))] [] h') : G X 300 295 911 [some (.ref 999), some (.ref 0), some (.ref 84), some (.int (nI i))] [] h := by
  obtain ⟨x, h1, h2, e1, e2, I2⟩ := p_ways h I
  refine k_295_911 hX (vb 1 (by decide)) (by decide) (t_114 e1) (fun x' h' q => ?_)
  obtain ⟨rfl, rfl⟩ := q
  refine k_295_920 hX (vb 1 (by decide)) (by decide) (t_253 e2) (fun x' h' q => ?_)
  obtain ⟨rfl, rfl⟩ := q
  exact k_295_929 hX (fun _ => nx _ I2) (fun q => absurd rfl q)
theorem lc_24 {X : GX} {h : Hp} {L i : Nat} {xs : Nat → Int32} (hX : X.2.2.2.2 = some (L, xs)) (vb : ∀ k, k < 5 → vp_in (nI i + nI k) L) (I : Inv h) (nx : ∀ h', Inv h' → G X 300 295 1735 [some (.ref 999), some (.ref 0), some (.ref 84), some (.int (nI i))] [] h') : G X 300 295 934 [some (.ref 999), some (.ref 0), some (.ref 84), some (.int (nI i))] [] h := by
  obtain ⟨x, h1, h2, e1, e2, I2⟩ := p_bill h I
  refine k_295_934 hX (vb 1 (by decide)) (vb 2 (by decide)) (by decide) (t_115 e1) (fun x' h' q => ?_)
  obtain ⟨rfl, rfl⟩ := q
  refine k_295_948 hX (vb 1 (by decide)) (vb 2 (by decide)) (by decide) (t_254 e2) (fun x' h' q => ?_)
  obtain ⟨rfl, rfl⟩ := q
  exact k_295_962 hX (fun _ => nx _ I2) (fun q => absurd rfl q)
theorem lc_25 {X : GX} {h : Hp} {L i : Nat} {xs : Nat → Int32} (hX : X.2.2.2.2 = some (L, xs)) (vb : ∀ k, k < 5 → vp_in (nI i + nI k) L) (I : Inv h) (nx : ∀ h', Inv h' → G X 300 295 1735 [some (.ref 999), some (.ref 0), some (.ref 84), some (.int (nI i))] [] h') : G X 300 295 967 [some (.ref 999), some (.ref 0), some (.ref 84), some (.int (nI i))] [] h := by
  obtain ⟨x, h1, h2, e1, e2, I2⟩ := p_bars h I
  refine k_295_967 hX (vb 1 (by decide)) (vb 2 (by decide)) (by decide) (t_117 e1) (fun x' h' q => ?_)
  obtain ⟨rfl, rfl⟩ := q
  refine k_295_981 hX (vb 1 (by decide)) (vb 2 (by decide)) (by decide) (t_257 e2) (fun x' h' q => ?_)
  obtain ⟨rfl, rfl⟩ := q
  exact k_295_995 hX (fun _ => nx _ I2) (fun q => absurd rfl q)
theorem lc_26 {X : GX} {h : Hp} {L i : Nat} {xs : Nat → Int32} (hX : X.2.2.2.2 = some (L, xs)) (vb : ∀ k, k < 5 → vp_in (nI i + nI k) L) (I : Inv h) (nx : ∀ h', Inv h' → G X 300 295 1735 [some (.ref 999), some (.ref 0), some (.ref 84), some (.int (nI i))] [] h') : G X 300 295 1000 [some (.ref 999), some (.ref 0), some (.ref 84), some (.int (nI i))] [] h := by
  obtain ⟨x, h1, h2, e1, e2, I2⟩ := p_game h I
  refine k_295_1000 hX (vb 1 (by decide)) (by decide) (t_119 e1) (fun x' h' q => ?_)
  obtain ⟨rfl, rfl⟩ := q
  refine k_295_1009 hX (vb 1 (by decide)) (by decide) (t_258 e2) (fun x' h' q => ?_)
  obtain ⟨rfl, rfl⟩ := q
  exact k_295_1018 hX (fun _ => nx _ I2) (fun q => absurd rfl q)
theorem lc_27 {X : GX} {h : Hp} {L i : Nat} {xs : Nat → Int32} (hX : X.2.2.2.2 = some (L, xs)) (vb : ∀ k, k < 5 → vp_in (nI i + nI k) L) (I : Inv h) (nx : ∀ h', Inv h' → G X 300 295 1735 [some (.ref 999), some (.ref 0), some (.ref 84), some (.int (nI i))] [] h') : G X 300 295 1023 [some (.ref 999), some (.ref 0), some (.ref 84), some (.int (nI i))] [] h := by
  obtain ⟨x, h1, h2, e1, e2, I2⟩ := p_play h I
  refine k_295_1023 hX (vb 1 (by decide)) (by decide) (t_122 e1) (fun x' h' q => ?_)
  obtain ⟨rfl, rfl⟩ := q
  refine k_295_1032 hX (vb 1 (by decide)) (by decide) (t_260 e2) (fun x' h' q => ?_)
  obtain ⟨rfl, rfl⟩ := q
  exact k_295_1041 hX (fun _ => nx _ I2) (fun q => absurd rfl q)
theorem lc_28 {X : GX} {h : Hp} {L i : Nat} {xs : Nat → Int32} (hX : X.2.2.2.2 = some (L, xs)) (vb : ∀ k, k < 5 → vp_in (nI i + nI k) L) (I : Inv h) (nx : ∀ h', Inv h' → G X 300 295 1735 [some (.ref 999), some (.ref 0), some (.ref 84), some (.int (nI i))] [] h') : G X 300 295 1046 [some (.ref 999), some (.ref 0), some (.ref 84), some (.int (nI i))] [] h := by
  obtain ⟨x, h1, h2, e1, e2, I2⟩ := p_report h I
  refine k_295_1046 hX (vb 1 (by decide)) (vb 2 (by decide)) (vb 3 (by decide)) (vb 4 (by decide)) (by decide) (t_123 e1) (fun x' h' q => ?_)
  obtain ⟨rfl, rfl⟩ := q
  refine k_295_1070 hX (vb 1 (by decide)) (vb 2 (by decide)) (vb 3 (by decide)) (vb 4 (by decide)) (by decide) (t_261 e2) (fun x' h' q => ?_)
  obtain ⟨rfl, rfl⟩ := q
  exact k_295_1094 hX (fun _ => nx _ I2) (fun q => absurd rfl q)
theorem lc_29 {X : GX} {h : Hp} {L i : Nat} {xs : Nat → Int32} (hX : X.2.2.2.2 = some (L, xs)) (vb : ∀ k, k < 5 → vp_in (nI i + nI k) L) (I : Inv h) (nx : ∀ h', Inv h' → G X 300 295 1735 [some (.ref 999), some (.ref 0), some (.ref 84), some (.int (nI i))] [] h') : G X 300 295 1099 [some (.ref 999), some (.ref 0), some (.ref 84), some (.int (nI i))] [] h := by
  obtain ⟨x, h1, h2, e1, e2, I2⟩ := p_forget h I
  refine k_295_1099 hX (by decide) (t_125 e1) (fun x' h' q => ?_)
  obtain ⟨rfl, rfl⟩ := q
  refine k_295_1103 hX (by decide) (t_262 e2) (fun x' h' q => ?_)
  obtain ⟨rfl, rfl⟩ := q
  exact k_295_1107 hX (fun _ => nx _ I2) (fun q => absurd rfl q)
theorem lc_30 {X : GX} {h : Hp} {L i : Nat} {xs : Nat → Int32} (hX : X.2.2.2.2 = some (L, xs)) (vb : ∀ k, k < 5 → vp_in (nI i + nI k) L) (I : Inv h) (nx : ∀ h', Inv h' → G X 300 295 1735 [some (.ref 999), some (.ref 0), some (.ref 84), some (.int (nI i))] [] h') : G X 300 295 1112 [some (.ref 999), some (.ref 0), some (.ref 84), some (.int (nI i))] [] h := by
  obtain ⟨x, h1, h2, e1, e2, I2⟩ := p_lone h I
  refine k_295_1112 hX (vb 1 (by decide)) (by decide) (t_126 e1) (fun x' h' q => ?_)
  obtain ⟨rfl, rfl⟩ := q
  refine k_295_1121 hX (vb 1 (by decide)) (by decide) (t_263 e2) (fun x' h' q => ?_)
  obtain ⟨rfl, rfl⟩ := q
  exact k_295_1130 hX (fun _ => nx _ I2) (fun q => absurd rfl q)
theorem lc_31 {X : GX} {h : Hp} {L i : Nat} {xs : Nat → Int32} (hX : X.2.2.2.2 = some (L, xs)) (vb : ∀ k, k < 5 → vp_in (nI i + nI k) L) (I : Inv h) (nx : ∀ h', Inv h' → G X 300 295 1735 [some (.ref 999), some (.ref 0), some (.ref 84), some (.int (nI i))] [] h') : G X 300 295 1135 [some (.ref 999), some (.ref 0), some (.ref 84), some (.int (nI i))] [] h := by
  obtain ⟨x, h1, h2, e1, e2, I2⟩ := p_liar h I
  refine k_295_1135 hX (by decide) (t_132 e1) (fun x' h' q => ?_)
  obtain ⟨rfl, rfl⟩ := q
  refine k_295_1139 hX (by decide) (t_266 e2) (fun x' h' q => ?_)
  obtain ⟨rfl, rfl⟩ := q
  exact k_295_1143 hX (fun _ => nx _ I2) (fun q => absurd rfl q)
theorem lc_32 {X : GX} {h : Hp} {L i : Nat} {xs : Nat → Int32} (hX : X.2.2.2.2 = some (L, xs)) (vb : ∀ k, k < 5 → vp_in (nI i + nI k) L) (I : Inv h) (nx : ∀ h', Inv h' → G X 300 295 1735 [some (.ref 999), some (.ref 0), some (.ref 84), some (.int (nI i))] [] h') : G X 300 295 1148 [some (.ref 999), some (.ref 0), some (.ref 84), some (.int (nI i))] [] h := by
  obtain ⟨x, h1, h2, e1, e2, I2⟩ := p_seed h I
  refine k_295_1148 hX (vb 1 (by decide)) (by decide) (t_133 e1) (fun x' h' q => ?_)
  obtain ⟨rfl, rfl⟩ := q
  refine k_295_1157 hX (vb 1 (by decide)) (by decide) (t_267 e2) (fun x' h' q => ?_)
  obtain ⟨rfl, rfl⟩ := q
  exact k_295_1166 hX (fun _ => nx _ I2) (fun q => absurd rfl q)
theorem lc_33 {X : GX} {h : Hp} {L i : Nat} {xs : Nat → Int32} (hX : X.2.2.2.2 = some (L, xs)) (vb : ∀ k, k < 5 → vp_in (nI i + nI k) L) (I : Inv h) (nx : ∀ h', Inv h' → G X 300 295 1735 [some (.ref 999), some (.ref 0), some (.ref 84), some (.int (nI i))] [] h') : G X 300 295 1171 [some (.ref 999), some (.ref 0), some (.ref 84), some (.int (nI i))] [] h := by
  obtain ⟨x, h1, h2, e1, e2, I2⟩ := p_lot h I
  refine k_295_1171 hX (by decide) (t_134 e1) (fun x' h' q => ?_)
  obtain ⟨rfl, rfl⟩ := q
  refine k_295_1175 hX (by decide) (t_268 e2) (fun x' h' q => ?_)
  obtain ⟨rfl, rfl⟩ := q
  exact k_295_1179 hX (fun _ => nx _ I2) (fun q => absurd rfl q)
theorem lc_34 {X : GX} {h : Hp} {L i : Nat} {xs : Nat → Int32} (hX : X.2.2.2.2 = some (L, xs)) (vb : ∀ k, k < 5 → vp_in (nI i + nI k) L) (I : Inv h) (nx : ∀ h', Inv h' → G X 300 295 1735 [some (.ref 999), some (.ref 0), some (.ref 84), some (.int (nI i))] [] h') : G X 300 295 1184 [some (.ref 999), some (.ref 0), some (.ref 84), some (.int (nI i))] [] h := by
  obtain ⟨x, h1, h2, e1, e2, I2⟩ := p_times h I
  refine k_295_1184 hX (vb 1 (by decide)) (vb 2 (by decide)) (by decide) (t_136 e1) (fun x' h' q => ?_)
  obtain ⟨rfl, rfl⟩ := q
  refine k_295_1198 hX (vb 1 (by decide)) (vb 2 (by decide)) (by decide) (t_270 e2) (fun x' h' q => ?_)
  obtain ⟨rfl, rfl⟩ := q
  exact k_295_1212 hX (fun _ => nx _ I2) (fun q => absurd rfl q)
theorem lc_35 {X : GX} {h : Hp} {L i : Nat} {xs : Nat → Int32} (hX : X.2.2.2.2 = some (L, xs)) (vb : ∀ k, k < 5 → vp_in (nI i + nI k) L) (I : Inv h) (nx : ∀ h', Inv h' → G X 300 295 1735 [some (.ref 999), some (.ref 0), some (.ref 84), some (.int (nI i))] [] h') : G X 300 295 1217 [some (.ref 999), some (.ref 0), some (.ref 84), some (.int (nI i))] [] h := by
  obtain ⟨x, h1, h2, e1, e2, I2⟩ := p_prove h I
  refine k_295_1217 hX (vb 1 (by decide)) (by decide) (t_138 e1) (fun x' h' q => ?_)
  obtain ⟨rfl, rfl⟩ := q
  refine k_295_1226 hX (vb 1 (by decide)) (by decide) (t_271 e2) (fun x' h' q => ?_)
  obtain ⟨rfl, rfl⟩ := q
  exact k_295_1235 hX (fun _ => nx _ I2) (fun q => absurd rfl q)
theorem lc_36 {X : GX} {h : Hp} {L i : Nat} {xs : Nat → Int32} (hX : X.2.2.2.2 = some (L, xs)) (vb : ∀ k, k < 5 → vp_in (nI i + nI k) L) (I : Inv h) (nx : ∀ h', Inv h' → G X 300 295 1735 [some (.ref 999), some (.ref 0), some (.ref 84), some (.int (nI i))] [] h') : G X 300 295 1240 [some (.ref 999), some (.ref 0), some (.ref 84), some (.int (nI i))] [] h := by
  obtain ⟨x, h1, h2, e1, e2, I2⟩ := p_row h I
  refine k_295_1240 hX (vb 1 (by decide)) (vb 2 (by decide)) (by decide) (t_140 e1) (fun x' h' q => ?_)
  obtain ⟨rfl, rfl⟩ := q
  refine k_295_1254 hX (vb 1 (by decide)) (vb 2 (by decide)) (by decide) (t_272 e2) (fun x' h' q => ?_)
  obtain ⟨rfl, rfl⟩ := q
  exact k_295_1268 hX (fun _ => nx _ I2) (fun q => absurd rfl q)
theorem lc_37 {X : GX} {h : Hp} {L i : Nat} {xs : Nat → Int32} (hX : X.2.2.2.2 = some (L, xs)) (vb : ∀ k, k < 5 → vp_in (nI i + nI k) L) (I : Inv h) (nx : ∀ h', Inv h' → G X 300 295 1735 [some (.ref 999), some (.ref 0), some (.ref 84), some (.int (nI i))] [] h') : G X 300 295 1273 [some (.ref 999), some (.ref 0), some (.ref 84), some (.int (nI i))] [] h := by
  obtain ⟨x, h1, h2, e1, e2, I2⟩ := p_alterRow h I
  refine k_295_1273 hX (vb 1 (by decide)) (vb 2 (by decide)) (vb 3 (by decide)) (by decide) (t_142 e1) (fun x' h' q => ?_)
  obtain ⟨rfl, rfl⟩ := q
  refine k_295_1292 hX (vb 1 (by decide)) (vb 2 (by decide)) (vb 3 (by decide)) (by decide) (t_273 e2) (fun x' h' q => ?_)
  obtain ⟨rfl, rfl⟩ := q
  exact k_295_1311 hX (fun _ => nx _ I2) (fun q => absurd rfl q)
theorem lc_38 {X : GX} {h : Hp} {L i : Nat} {xs : Nat → Int32} (hX : X.2.2.2.2 = some (L, xs)) (vb : ∀ k, k < 5 → vp_in (nI i + nI k) L) (I : Inv h) (nx : ∀ h', Inv h' → G X 300 295 1735 [some (.ref 999), some (.ref 0), some (.ref 84), some (.int (nI i))] [] h') : G X 300 295 1316 [some (.ref 999), some (.ref 0), some (.ref 84), some (.int (nI i))] [] h := by
  obtain ⟨x, h1, h2, e1, e2, I2⟩ := p_judge h I
  refine k_295_1316 hX (by decide) (t_143 e1) (fun x' h' q => ?_)
  obtain ⟨rfl, rfl⟩ := q
  refine k_295_1320 hX (by decide) (t_274 e2) (fun x' h' q => ?_)
  obtain ⟨rfl, rfl⟩ := q
  exact k_295_1324 hX (fun _ => nx _ I2) (fun q => absurd rfl q)
theorem lc_39 {X : GX} {h : Hp} {L i : Nat} {xs : Nat → Int32} (hX : X.2.2.2.2 = some (L, xs)) (vb : ∀ k, k < 5 → vp_in (nI i + nI k) L) (I : Inv h) (nx : ∀ h', Inv h' → G X 300 295 1735 [some (.ref 999), some (.ref 0), some (.ref 84), some (.int (nI i))] [] h') : G X 300 295 1329 [some (.ref 999), some (.ref 0), some (.ref 84), some (.int (nI i))] [] h := by
  obtain ⟨x, h1, h2, e1, e2, I2⟩ := p_sheet h I
  refine k_295_1329 hX (vb 1 (by decide)) (vb 2 (by decide)) (vb 3 (by decide)) (by decide) (t_146 e1) (fun x' h' q => ?_)
  obtain ⟨rfl, rfl⟩ := q
  refine k_295_1348 hX (vb 1 (by decide)) (vb 2 (by decide)) (vb 3 (by decide)) (by decide) (t_275 e2) (fun x' h' q => ?_)
  obtain ⟨rfl, rfl⟩ := q
  exact k_295_1367 hX (fun _ => nx _ I2) (fun q => absurd rfl q)
theorem lc_40 {X : GX} {h : Hp} {L i : Nat} {xs : Nat → Int32} (hX : X.2.2.2.2 = some (L, xs)) (vb : ∀ k, k < 5 → vp_in (nI i + nI k) L) (I : Inv h) (nx : ∀ h', Inv h' → G X 300 295 1735 [some (.ref 999), some (.ref 0), some (.ref 84), some (.int (nI i))] [] h') : G X 300 295 1372 [some (.ref 999), some (.ref 0), some (.ref 84), some (.int (nI i))] [] h := by
  obtain ⟨x, h1, h2, e1, e2, I2⟩ := p_write h I
  refine k_295_1372 hX (vb 1 (by decide)) (vb 2 (by decide)) (vb 3 (by decide)) (by decide) (t_149 e1) (fun x' h' q => ?_)
  obtain ⟨rfl, rfl⟩ := q
  refine k_295_1391 hX (vb 1 (by decide)) (vb 2 (by decide)) (vb 3 (by decide)) (by decide) (t_277 e2) (fun x' h' q => ?_)
  obtain ⟨rfl, rfl⟩ := q
  exact k_295_1410 hX (fun _ => nx _ I2) (fun q => absurd rfl q)
theorem lc_41 {X : GX} {h : Hp} {L i : Nat} {xs : Nat → Int32} (hX : X.2.2.2.2 = some (L, xs)) (vb : ∀ k, k < 5 → vp_in (nI i + nI k) L) (I : Inv h) (nx : ∀ h', Inv h' → G X 300 295 1735 [some (.ref 999), some (.ref 0), some (.ref 84), some (.int (nI i))] [] h') : G X 300 295 1415 [some (.ref 999), some (.ref 0), some (.ref 84), some (.int (nI i))] [] h := by
  obtain ⟨x, h1, h2, e1, e2, I2⟩ := p_item h I
  refine k_295_1415 hX (vb 1 (by decide)) (vb 2 (by decide)) (vb 3 (by decide)) (by decide) (t_152 e1) (fun x' h' q => ?_)
  obtain ⟨rfl, rfl⟩ := q
  refine k_295_1434 hX (vb 1 (by decide)) (vb 2 (by decide)) (vb 3 (by decide)) (by decide) (t_278 e2) (fun x' h' q => ?_)
  obtain ⟨rfl, rfl⟩ := q
  exact k_295_1453 hX (fun _ => nx _ I2) (fun q => absurd rfl q)
theorem lc_42 {X : GX} {h : Hp} {L i : Nat} {xs : Nat → Int32} (hX : X.2.2.2.2 = some (L, xs)) (vb : ∀ k, k < 5 → vp_in (nI i + nI k) L) (I : Inv h) (nx : ∀ h', Inv h' → G X 300 295 1735 [some (.ref 999), some (.ref 0), some (.ref 84), some (.int (nI i))] [] h') : G X 300 295 1458 [some (.ref 999), some (.ref 0), some (.ref 84), some (.int (nI i))] [] h := by
  obtain ⟨x, h1, h2, e1, e2, I2⟩ := p_goAll h I
  refine k_295_1458 hX (vb 1 (by decide)) (vb 2 (by decide)) (vb 3 (by decide)) (by decide) (t_154 e1) (fun x' h' q => ?_)
  obtain ⟨rfl, rfl⟩ := q
  refine k_295_1477 hX (vb 1 (by decide)) (vb 2 (by decide)) (vb 3 (by decide)) (by decide) (t_279 e2) (fun x' h' q => ?_)
  obtain ⟨rfl, rfl⟩ := q
  exact k_295_1496 hX (fun _ => nx _ I2) (fun q => absurd rfl q)
theorem lc_43 {X : GX} {h : Hp} {L i : Nat} {xs : Nat → Int32} (hX : X.2.2.2.2 = some (L, xs)) (vb : ∀ k, k < 5 → vp_in (nI i + nI k) L) (I : Inv h) (nx : ∀ h', Inv h' → G X 300 295 1735 [some (.ref 999), some (.ref 0), some (.ref 84), some (.int (nI i))] [] h') : G X 300 295 1501 [some (.ref 999), some (.ref 0), some (.ref 84), some (.int (nI i))] [] h := by
  obtain ⟨x, h1, h2, e1, e2, I2⟩ := p_wouldBe h I
  refine k_295_1501 hX (vb 1 (by decide)) (vb 2 (by decide)) (vb 3 (by decide)) (by decide) (t_155 e1) (fun x' h' q => ?_)
  obtain ⟨rfl, rfl⟩ := q
  refine k_295_1520 hX (vb 1 (by decide)) (vb 2 (by decide)) (vb 3 (by decide)) (by decide) (t_281 e2) (fun x' h' q => ?_)
  obtain ⟨rfl, rfl⟩ := q
  exact k_295_1539 hX (fun _ => nx _ I2) (fun q => absurd rfl q)
theorem lc_44 {X : GX} {h : Hp} {L i : Nat} {xs : Nat → Int32} (hX : X.2.2.2.2 = some (L, xs)) (vb : ∀ k, k < 5 → vp_in (nI i + nI k) L) (I : Inv h) (nx : ∀ h', Inv h' → G X 300 295 1735 [some (.ref 999), some (.ref 0), some (.ref 84), some (.int (nI i))] [] h') : G X 300 295 1544 [some (.ref 999), some (.ref 0), some (.ref 84), some (.int (nI i))] [] h := by
  obtain ⟨x, h1, h2, e1, e2, I2⟩ := p_shelf h I
  refine k_295_1544 hX (vb 1 (by decide)) (vb 2 (by decide)) (vb 3 (by decide)) (by decide) (t_157 e1) (fun x' h' q => ?_)
  obtain ⟨rfl, rfl⟩ := q
  refine k_295_1563 hX (vb 1 (by decide)) (vb 2 (by decide)) (vb 3 (by decide)) (by decide) (t_282 e2) (fun x' h' q => ?_)
  obtain ⟨rfl, rfl⟩ := q
  exact k_295_1582 hX (fun _ => nx _ I2) (fun q => absurd rfl q)
theorem lc_45 {X : GX} {h : Hp} {L i : Nat} {xs : Nat → Int32} (hX : X.2.2.2.2 = some (L, xs)) (vb : ∀ k, k < 5 → vp_in (nI i + nI k) L) (I : Inv h) (nx : ∀ h', Inv h' → G X 300 295 1735 [some (.ref 999), some (.ref 0), some (.ref 84), some (.int (nI i))] [] h') : G X 300 295 1587 [some (.ref 999), some (.ref 0), some (.ref 84), some (.int (nI i))] [] h := by
  obtain ⟨x, h1, h2, e1, e2, I2⟩ := p_taken h I
  refine k_295_1587 hX (vb 1 (by decide)) (vb 2 (by decide)) (by decide) (t_161 e1) (fun x' h' q => ?_)
  obtain ⟨rfl, rfl⟩ := q
  refine k_295_1601 hX (vb 1 (by decide)) (vb 2 (by decide)) (by decide) (t_283 e2) (fun x' h' q => ?_)
  obtain ⟨rfl, rfl⟩ := q
  exact k_295_1615 hX (fun _ => nx _ I2) (fun q => absurd rfl q)
theorem lc_46 {X : GX} {h : Hp} {L i : Nat} {xs : Nat → Int32} (hX : X.2.2.2.2 = some (L, xs)) (vb : ∀ k, k < 5 → vp_in (nI i + nI k) L) (I : Inv h) (nx : ∀ h', Inv h' → G X 300 295 1735 [some (.ref 999), some (.ref 0), some (.ref 84), some (.int (nI i))] [] h') : G X 300 295 1620 [some (.ref 999), some (.ref 0), some (.ref 84), some (.int (nI i))] [] h := by
  obtain ⟨x, h1, h2, e1, e2, I2⟩ := p_act h I
  refine k_295_1620 hX (vb 1 (by decide)) (vb 2 (by decide)) (vb 3 (by decide)) (by decide) (t_163 e1) (fun x' h' q => ?_)
  obtain ⟨rfl, rfl⟩ := q
  refine k_295_1639 hX (vb 1 (by decide)) (vb 2 (by decide)) (vb 3 (by decide)) (by decide) (t_285 e2) (fun x' h' q => ?_)
  obtain ⟨rfl, rfl⟩ := q
  exact k_295_1658 hX (fun _ => nx _ I2) (fun q => absurd rfl q)
theorem lc_47 {X : GX} {h : Hp} {L i : Nat} {xs : Nat → Int32} (hX : X.2.2.2.2 = some (L, xs)) (vb : ∀ k, k < 5 → vp_in (nI i + nI k) L) (I : Inv h) (nx : ∀ h', Inv h' → G X 300 295 1735 [some (.ref 999), some (.ref 0), some (.ref 84), some (.int (nI i))] [] h') : G X 300 295 1663 [some (.ref 999), some (.ref 0), some (.ref 84), some (.int (nI i))] [] h := by
  obtain ⟨x, h1, h2, e1, e2, I2⟩ := p_trace h I
  refine k_295_1663 hX (vb 1 (by decide)) (by decide) (t_169 e1) (fun x' h' q => ?_)
  obtain ⟨rfl, rfl⟩ := q
  refine k_295_1672 hX (vb 1 (by decide)) (by decide) (t_291 e2) (fun x' h' q => ?_)
  obtain ⟨rfl, rfl⟩ := q
  exact k_295_1681 hX (fun _ => nx _ I2) (fun q => absurd rfl q)
theorem lc_48 {X : GX} {h : Hp} {L i : Nat} {xs : Nat → Int32} (hX : X.2.2.2.2 = some (L, xs)) (vb : ∀ k, k < 5 → vp_in (nI i + nI k) L) (I : Inv h) (nx : ∀ h', Inv h' → G X 300 295 1735 [some (.ref 999), some (.ref 0), some (.ref 84), some (.int (nI i))] [] h') : G X 300 295 1686 [some (.ref 999), some (.ref 0), some (.ref 84), some (.int (nI i))] [] h := by
  obtain ⟨x, h1, h2, e1, e2, I2⟩ := p_many h I
  refine k_295_1686 hX (vb 1 (by decide)) (by decide) (t_170 e1) (fun x' h' q => ?_)
  obtain ⟨rfl, rfl⟩ := q
  refine k_295_1695 hX (vb 1 (by decide)) (by decide) (t_292 e2) (fun x' h' q => ?_)
  obtain ⟨rfl, rfl⟩ := q
  exact k_295_1704 hX (fun _ => nx _ I2) (fun q => absurd rfl q)
theorem lc_49 {X : GX} {h : Hp} {L i : Nat} {xs : Nat → Int32} (hX : X.2.2.2.2 = some (L, xs)) (vb : ∀ k, k < 5 → vp_in (nI i + nI k) L) (I : Inv h) (nx : ∀ h', Inv h' → G X 300 295 1735 [some (.ref 999), some (.ref 0), some (.ref 84), some (.int (nI i))] [] h') : G X 300 295 1709 [some (.ref 999), some (.ref 0), some (.ref 84), some (.int (nI i))] [] h := by
  obtain ⟨x, h1, h2, e1, e2, I2⟩ := p_keep h I
  refine k_295_1709 hX (by decide) (t_171 e1) (fun x' h' q => ?_)
  obtain ⟨rfl, rfl⟩ := q
  refine k_295_1713 hX (by decide) (t_293 e2) (fun x' h' q => ?_)
  obtain ⟨rfl, rfl⟩ := q
  exact k_295_1717 hX (fun _ => nx _ I2) (fun q => absurd rfl q)
theorem lc_50 {X : GX} {h : Hp} {L i : Nat} {xs : Nat → Int32} (hX : X.2.2.2.2 = some (L, xs)) (vb : ∀ k, k < 5 → vp_in (nI i + nI k) L) (I : Inv h) (nx : ∀ h', Inv h' → G X 300 295 1735 [some (.ref 999), some (.ref 0), some (.ref 84), some (.int (nI i))] [] h') : G X 300 295 1722 [some (.ref 999), some (.ref 0), some (.ref 84), some (.int (nI i))] [] h := by
  obtain ⟨x, h1, h2, e1, e2, I2⟩ := p_again h I
  refine k_295_1722 hX (by decide) (t_174 e1) (fun x' h' q => ?_)
  obtain ⟨rfl, rfl⟩ := q
  refine k_295_1726 hX (by decide) (t_294 e2) (fun x' h' q => ?_)
  obtain ⟨rfl, rfl⟩ := q
  exact k_295_1730 hX (fun _ => nx _ I2) (fun q => absurd rfl q)
theorem law_loop {X : GX} {L : Nat} {xs : Nat → Int32} (hX : X.2.2.2.2 = some (L, xs)) (hL : L ≤ 2560) (hq : ∀ h, RtX X (some (.int 1)) h) : ∀ (n i : Nat) (h : Hp), L - i ≤ n → i ≤ L + 5 → Inv h → G X 300 295 18 [some (.ref 999), some (.ref 0), some (.ref 84), some (.int (nI i))] [] h := by
  intro n
  induction n with
  | zero =>
    intro i h hn hi I
    refine k_295_18 hX (fun _ => k_295_1741 hX (hq h)) (fun q => absurd ?_ q)
    show nI L - nI 5 < nI i
    rw [Int32.lt_iff_toInt_lt, pk_sub_toInt (by omega) (by decide), nI_toInt (by omega)]
    omega
  | succ n ih =>
    intro i h hn hi I
    refine k_295_18 hX (fun _ => k_295_1741 hX (hq h)) (fun q => ?_)
    have c : i + 5 ≤ L := by
      rcases Nat.lt_or_ge L (i + 5) with c | c
      · refine absurd ?_ q
        show nI L - nI 5 < nI i
        rw [Int32.lt_iff_toInt_lt, pk_sub_toInt (by omega) (by decide), nI_toInt (by omega)]
        omega
      · exact c
    have vb : ∀ k, k < 5 → vp_in (nI i + nI k) L := fun k hk => by
      rw [nI_add]
      exact vp_in_nI (by omega) (by omega)
    have v0 : vp_in (nI i) L := vp_in_nI (by omega) (by omega)
    have nx : ∀ h', Inv h' → G X 300 295 1735 [some (.ref 999), some (.ref 0), some (.ref 84), some (.int (nI i))] [] h' := fun h' I' => by
      refine k_295_1735 hX ?_
      have e : nI i + 5 = nI (i + 5) := nI_add i 5
      rw [e]
      exact ih (i + 5) h' (by omega) (by omega) I'
    exact k_295_26 hX v0 (fun _ => lc_0 hX vb I nx) (fun _ => lc_1 hX vb I nx) (fun _ => lc_2 hX vb I nx) (fun _ => lc_3 hX vb I nx) (fun _ => lc_4 hX vb I nx) (fun _ => lc_5 hX vb I nx) (fun _ => lc_6 hX vb I nx) (fun _ => lc_7 hX vb I nx) (fun _ => lc_8 hX vb I nx) (fun _ => lc_9 hX vb I nx) (fun _ => lc_10 hX vb I nx) (fun _ => lc_11 hX vb I nx) (fun _ => lc_12 hX vb I nx) (fun _ => lc_13 hX vb I nx) (fun _ => lc_14 hX vb I nx) (fun _ => lc_15 hX vb I nx) (fun _ => lc_16 hX vb I nx) (fun _ => lc_17 hX vb I nx) (fun _ => lc_18 hX vb I nx) (fun _ => lc_19 hX vb I nx) (fun _ => lc_20 hX vb I nx) (fun _ => lc_21 hX vb I nx) (fun _ => lc_22 hX vb I nx) (fun _ => lc_23 hX vb I nx) (fun _ => lc_24 hX vb I nx) (fun _ => lc_25 hX vb I nx) (fun _ => lc_26 hX vb I nx) (fun _ => lc_27 hX vb I nx) (fun _ => lc_28 hX vb I nx) (fun _ => lc_29 hX vb I nx) (fun _ => lc_30 hX vb I nx) (fun _ => lc_31 hX vb I nx) (fun _ => lc_32 hX vb I nx) (fun _ => lc_33 hX vb I nx) (fun _ => lc_34 hX vb I nx) (fun _ => lc_35 hX vb I nx) (fun _ => lc_36 hX vb I nx) (fun _ => lc_37 hX vb I nx) (fun _ => lc_38 hX vb I nx) (fun _ => lc_39 hX vb I nx) (fun _ => lc_40 hX vb I nx) (fun _ => lc_41 hX vb I nx) (fun _ => lc_42 hX vb I nx) (fun _ => lc_43 hX vb I nx) (fun _ => lc_44 hX vb I nx) (fun _ => lc_45 hX vb I nx) (fun _ => lc_46 hX vb I nx) (fun _ => lc_47 hX vb I nx) (fun _ => lc_48 hX vb I nx) (fun _ => lc_49 hX vb I nx) (fun _ => lc_50 hX vb I nx) (fun _ _ _ _ _ _ _ _ _ _ _ _ _ _ _ _ _ _ _ _ _ _ _ _ _ _ _ _ _ _ _ _ _ _ _ _ _ _ _ _ _ _ _ _ _ _ _ _ _ _ _ => nx h I)
