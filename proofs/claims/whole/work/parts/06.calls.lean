/-! part 06: calls, contracts from walks -/
theorem good_of {ws : List Jvm.Cond} (h : ∀ w ∈ ws, w ∈ tbl) : GoodIn tbl ws := fun w hw => ⟨h w hw, tbl_good w (h w hw)⟩
theorem wdW_in {mi : Nat} (h : mIn mi) : ∀ w ∈ wdW mi, w ∈ tbl := by
  intro w hw
  rcases List.mem_cons.mp hw with rfl | hw
  · exact h
  · exact hw
theorem PcW_blind (Y : GY) (vs : List Value) (h : Hp) : FrameBlind (PcW Y vs h) := by
  intro a U g mk q
  obtain ⟨q1, q2, q3, q4⟩ := q
  exact ⟨q1, q2, va_K.moved (u := U) (U := U.calling g mk a) (Vm.Alike.refl U.vm) q3, ExA.same q4 rfl⟩
theorem g_after {p : Program} {l : Launch} {e : Env} {R : Room} {s : State} {m : MethodId} {args : Array Value} {below : List Frame} {meth : Method} {c : Code} {H : Heap} {locs : List Loc} {ce sl pc : Nat} {Q : State → Prop} {ls : Array Slot} {st0 rest : List Value} {Y : GY} {Q' : Option Value → Hp → Prop} {a : Array Value}
    (hr : va_Run p l e R s m args below meth c H locs ce sl 0 0 (F0 m pc ls st0) rest (QcW Y Q' a) (AW Y)) (hS : va_S (AW Y) s.heap H locs)
    (kk : ∀ (r : Option Value) (h' : Hp), Q' r h' → ∀ (H1 : Heap) (locs1 : List Loc), va_P Y.2.1 classes (wsW Y h') H1 → va_S (AW Y) s.heap H1 locs1 → W p l e R s m args below meth c H1 locs1 ce sl Q (F0 m (pc + 3) ls ((r.map (cz Y.1)).toList ++ rest))) : W p l e R s m args below meth c H locs ce sl Q (F0 m pc ls st0) := by
  intro T hT X
  obtain ⟨v, st₀, t, T', L, h0, X', hL, e1, e2, ⟨⟨r, h', hq, hv, hP⟩, hz, hk⟩, st⟩ := hr T hT X
  cases hv
  rw [h0] at hz hk
  have hS1 : va_S (AW Y) s.heap T'.heap (locs ++ L) := by
    refine ⟨Nat.le_trans hS.1 (by rw [e1]; exact hz), fun q h1 h2 => ?_, fun q hq => ?_⟩
    · rw [e1, hk q (Nat.lt_of_lt_of_le h1 hS.1) h2]
      exact hS.2.1 q h1 h2
    · rcases List.mem_append.mp hq with hq | hq
      · exact hS.2.2 q hq
      · exact hL q hq
  obtain ⟨t2, a1, b1⟩ := kk r h' hq T'.heap (locs ++ L) (by rw [e1]; exact hP) hS1 T' rfl X'
  exact ⟨t2, st t2 a1, b1⟩
theorem g_callV {X : GX} {d mi pc : Nat} {lv : List (Option Value)} {h : Hp} {n b ci mj d' : Nat} {As t : List Value} {Q' : Option Value → Hp → Prop} (hd : decode (mth mi).2.1 pc = .ok (.invokevirtual n, 3)) (hw : Jvm.Cond.methodLink (mth mi).1.cls n (mth mj).1 ∈ tbl) (hm : mOk mj = true) (hmi : mIn mj) (hmw : mWd mj) (hkd : (mw mj).1 = 1) (hci : cnF ci = (mth mj).1.cls) (hb : sh b = (1, ci)) (hlen : As.length = (mw mj).2) (hcat : (t.map fun v => v.category).sum ≤ 8) (hdd : d' < d) (hC : C d' mj (.ref b :: As) h Q') (kk : ∀ r h', Q' r h' → G X d mi (pc + 3) lv (r.toList ++ t) h') : G X d mi pc lv (As.reverse ++ .ref b :: t) h := by
  obtain ⟨⟨p, l, e, R, s⟩, ⟨m, args, below, meth, c⟩, Y, ⟨ce, sl, Q, Rt⟩, o⟩ := X
  intro E H locs ls hP hS hl
  obtain ⟨hx, hcb, hml, hown, hts, hK, hAd, hEx, ⟨hr1, hr2, hr3, hr4⟩, -⟩ := id E
  have hin := wdW_in hmi
  have hm2 := hm
  unfold mOk at hm2
  simp only [Bool.and_eq_true, decide_eq_true_eq] at hm2
  obtain ⟨⟨⟨⟨k3, k4⟩, k5⟩, k6⟩, k7⟩ := hm2
  unfold mWd at hmw
  rw [hkd] at hmw
  obtain ⟨k2, k8, k9⟩ := hmw
  have cw : CallW R s args (mth mi).1.cls (mth mj).1.cls n (mth mj).1 (mth mj).2.1 (mth mj).2.2.1 (mth mj).2.2.2 (wdW mj) (rmD d') 0 0 (mw mj).2 := by
    refine cwV (mw mj).2 hts (good_of (fun w hw' => ?_)) rfl rfl rfl ⟨rfl, k3, k4, k5⟩ ⟨?_, ?_⟩
    · unfold wsV at hw'
      rcases List.mem_append.mp hw' with q | q
      · simp only [List.mem_cons, List.not_mem_nil, or_false] at q
        rcases q with rfl | rfl | rfl | rfl
        · exact hw
        · exact k8
        · exact k9
        · exact k2
      · exact hin w q
    · show d' + 1 ≤ R.frames
      omega
    · show 8 + ((mth mj).2.2.1 + 11) + 64 * d' ≤ R.locals
      omega
  have hp : PreV s H (mth mj).1.cls (Y.1 b) (PcW Y (.ref b :: As) h) (As.map (cz Y.1)) := by
    refine ⟨PcW_blind Y _ h, ?_, fun U hU hW => ⟨rfl, by rw [hU]; exact hP, va_K.moved hW.alike hK, by rw [hU]; exact hEx.go hW hS.2.1⟩⟩
    rw [← hci]
    exact va_recv hK hP (ci := ci) (q0 := b) (cls_at ci (sh_c1 hb)) (by rw [wsW_at Y h (sh_lt hb (by decide)), cellE_obj hb])
  refine g_after (va_runV (As := As.map (cz Y.1)) (rest := t.map (cz Y.1)) ⟨hx, hcb, hml, hown, hts⟩ (hC l Y hAd) cw hp rfl (by rw [List.length_map]; exact hlen) hl.1 ?_ (lv_room ?_) hd ⟨hr3, hr4⟩) hS (fun r h' q H1 locs1 hP1 hS1 => ?_)
  · show List.map (cz Y.1) (As.reverse ++ .ref b :: t) = _
    simp [List.map_append, List.map_reverse, cz]
  · rw [List.map_map]
    have : (fun v : Value => v.category) ∘ cz Y.1 = fun v => v.category := funext fun v => cz_cat Y.1 v
    rw [this]
    exact hcat
  · have := kk r h' q E H1 locs1 ls hP1 hS1 hl
    rw [List.map_append] at this
    have e2 : (Option.map (cz Y.1) r).toList = List.map (cz Y.1) r.toList := by cases r <;> rfl
    rw [e2]
    exact this
theorem g_callS {X : GX} {d mi pc : Nat} {lv : List (Option Value)} {h : Hp} {n mj d' : Nat} {As t : List Value} {Q' : Option Value → Hp → Prop} (hd : decode (mth mi).2.1 pc = .ok (.invokestatic n, 3)) (hw : Jvm.Cond.methodLink (mth mi).1.cls n (mth mj).1 ∈ tbl) (hm : mOk mj = true) (hmi : mIn mj) (hmw : mWd mj) (hkd : (mw mj).1 = 0) (hlen : As.length = (mw mj).2) (hcat : (t.map fun v => v.category).sum ≤ 8) (hdd : d' < d) (hC : C d' mj As h Q') (kk : ∀ r h', Q' r h' → G X d mi (pc + 3) lv (r.toList ++ t) h') : G X d mi pc lv (As.reverse ++ t) h := by
  obtain ⟨⟨p, l, e, R, s⟩, ⟨m, args, below, meth, c⟩, Y, ⟨ce, sl, Q, Rt⟩, o⟩ := X
  intro E H locs ls hP hS hl
  obtain ⟨hx, hcb, hml, hown, hts, hK, hAd, hEx, ⟨hr1, hr2, hr3, hr4⟩, -⟩ := id E
  have hin := wdW_in hmi
  have hm2 := hm
  unfold mOk at hm2
  simp only [Bool.and_eq_true, decide_eq_true_eq] at hm2
  obtain ⟨⟨⟨⟨k3, k4⟩, k5⟩, k6⟩, k7⟩ := hm2
  unfold mWd at hmw
  rw [hkd] at hmw
  obtain ⟨k2, k8⟩ := hmw
  have cw : CallB R s args (mth mi).1.cls n (mth mj).1 (mth mj).2.1 (mth mj).2.2.1 (mth mj).2.2.2 (wdW mj) (rmD d') 0 0 (mw mj).2 ∧ (Cond.static (mth mj).1).before args s = true := by
    refine va_cwS (mw mj).2 hts (good_of (fun w hw' => ?_)) rfl rfl rfl ⟨k3, k4, k5⟩ ⟨?_, ?_⟩
    · unfold va_wsS at hw'
      rcases List.mem_append.mp hw' with q | q
      · simp only [List.mem_cons, List.not_mem_nil, or_false] at q
        rcases q with rfl | rfl | rfl
        · exact hw
        · exact k8
        · exact k2
      · exact hin w q
    · show d' + 1 ≤ R.frames
      omega
    · show 8 + ((mth mj).2.2.1 + 11) + 64 * d' ≤ R.locals
      omega
  have hp : PreS s H (PcW Y As h) (As.map (cz Y.1)) := ⟨PcW_blind Y _ h, fun U hU hW => ⟨rfl, by rw [hU]; exact hP, va_K.moved hW.alike hK, by rw [hU]; exact hEx.go hW hS.2.1⟩⟩
  refine g_after (va_runS (As := As.map (cz Y.1)) (rest := t.map (cz Y.1)) ⟨hx, hcb, hml, hown, hts⟩ (hC l Y hAd) cw hp rfl (by rw [List.length_map]; exact hlen) hl.1 ?_ (lv_room ?_) hd ⟨hr3, hr4⟩) hS (fun r h' q H1 locs1 hP1 hS1 => ?_)
  · show List.map (cz Y.1) (As.reverse ++ t) = _
    simp [List.map_append, List.map_reverse]
  · rw [List.map_map]
    have : (fun v : Value => v.category) ∘ cz Y.1 = fun v => v.category := funext fun v => cz_cat Y.1 v
    rw [this]
    exact hcat
  · have := kk r h' q E H1 locs1 ls hP1 hS1 hl
    rw [List.map_append] at this
    have e2 : (Option.map (cz Y.1) r).toList = List.map (cz Y.1) r.toList := by cases r <;> rfl
    rw [e2]
    exact this
/-- the store, but row f at cell a -/
def wrA (h : Hp) (a : Nat) (f : Nat → Int32) : Hp := fun c => if c = a then f else h c
theorem wrA_self {h : Hp} {a : Nat} {f : Nat → Int32} : wrA h a f a = f := by unfold wrA; rw [if_pos rfl]
theorem wrA_c {h : Hp} {a c : Nat} {f : Nat → Int32} (e : c ≠ a) : wrA h a f c = h c := by unfold wrA; rw [if_neg e]
theorem g_copy {X : GX} {d mi pc : Nat} {lv : List (Option Value)} {t : List Value} {h : Hp} {n a0 a n0 n1 : Nat} {sp dp z : Int32} (hd : decode (mth mi).2.1 pc = .ok (.invokestatic n, 3)) (hw : Jvm.Cond.methodLink (mth mi).1.cls n arraycopyName ∈ tbl) (hnat : Jvm.Cond.native arraycopyName ∈ tbl) (hst : Jvm.Cond.static arraycopyName ∈ tbl) (hin : Jvm.Cond.initialized "java/lang/System" ∈ tbl) (hcat : (t.map fun v => v.category).sum ≤ 8) (hdd : 0 < d) (ha0 : sh a0 = (0, n0)) (ha : sh a = (0, n1)) (h1 : ¬ sp < 0) (h2 : ¬ dp < 0) (h3 : ¬ z < 0) (h4 : sp.toNatClampNeg + z.toNatClampNeg ≤ n0) (h5 : dp.toNatClampNeg + z.toNatClampNeg ≤ n1)
    (kk : G X d mi (pc + 3) lv t (wrA h a (va_cpy (h a0) (h a) sp.toNatClampNeg dp.toNatClampNeg z.toNatClampNeg))) : G X d mi pc lv (.int z :: .int dp :: .ref a :: .int sp :: .ref a0 :: t) h := by
  obtain ⟨⟨p, l, e, R, s⟩, ⟨m, args, below, meth, c⟩, Y, ⟨ce, sl, Q, Rt⟩, o⟩ := X
  intro E H locs ls hP hS hl
  obtain ⟨hx, hcb, hml, hown, hts, hK, hAd, hEx, ⟨hr1, hr2, hr3, hr4⟩, -⟩ := id E
  have hc2 : ((t.map (cz Y.1)).map fun v => v.category).sum ≤ 8 := by
    rw [List.map_map]
    have : (fun v : Value => v.category) ∘ cz Y.1 = fun v => v.category := funext fun v => cz_cat Y.1 v
    rw [this]
    exact hcat
  have hnf : nativeFrameWords "java/lang/System" "arraycopy" 5 = 7 := by decide +kernel
  refine va_copyi (f := h a0) (g := h a) (ty := .int) hx hcb (hml.trans hl.1.symm) hown (hts _ hw) (hts _ hnat) (hts _ hst) (hts _ hin) hK hP (wsW_D hAd h) hS a0 a 0 0 (by rw [wsW_at Y h (sh_lt ha0 (by decide)), cellE_arr ha0]) (by rw [wsW_at Y h (sh_lt ha (by decide)), cellE_arr ha]) rfl rfl rfl h1 h2 h3 h4 h5 (fun i hi => rfl) (by omega) (by rw [hnf]; omega) hd (fun H1 locs1 hP1 hD1 hS1 => ?_)
  have e1 : (Sum.inl (Y.2.2 0, n1, Sum.inl (va_cpy (h a0) (h a) sp.toNatClampNeg dp.toNatClampNeg z.toNatClampNeg)) : va_E) = cellE Y a (wrA h a (va_cpy (h a0) (h a) sp.toNatClampNeg dp.toNatClampNeg z.toNatClampNeg) a) := by rw [wrA_self, cellE_arr ha]
  rw [e1, wsW_set (sh_lt ha (by decide)) (fun j hj => wrA_c hj)] at hP1
  exact kk E H1 locs1 ls hP1 hS1 hl
theorem math_in : Jvm.Cond.initialized "java/lang/Math" ∈ tbl := in_t1 (List.mem_of_getElem? (i := 12) rfl) rfl
theorem math_max_st : Jvm.Cond.static Lib.Math.max.name ∈ tbl := in_t2 (List.mem_of_getElem? (i := 170) rfl) rfl
theorem math_max_bytes : prog_14_method_65_code = Lib.Math.max.code := by decide +kernel
set_option maxRecDepth 100000 in
theorem math_max_cd : Jvm.Cond.code Lib.Math.max.name Lib.Math.max.code 2 (some .int) ∈ tbl := by
  rw [← math_max_bytes]
  exact in_t2 (List.mem_of_getElem? (i := 171) rfl) rfl
theorem math_min_st : Jvm.Cond.static Lib.Math.min.name ∈ tbl := in_t3 (List.mem_of_getElem? (i := 196) rfl) rfl
theorem math_min_bytes : prog_14_method_69_code = Lib.Math.min.code := by decide +kernel
set_option maxRecDepth 100000 in
theorem math_min_cd : Jvm.Cond.code Lib.Math.min.name Lib.Math.min.code 2 (some .int) ∈ tbl := by
  rw [← math_min_bytes]
  exact in_t3 (List.mem_of_getElem? (i := 197) rfl) rfl
theorem math_abs_st : Jvm.Cond.static Lib.Math.abs.name ∈ tbl := in_t4 (List.mem_of_getElem? (i := 43) rfl) rfl
theorem math_abs_bytes : prog_14_method_59_code = Lib.Math.abs.code := by decide +kernel
set_option maxRecDepth 100000 in
theorem math_abs_cd : Jvm.Cond.code Lib.Math.abs.name Lib.Math.abs.code 1 (some .int) ∈ tbl := by
  rw [← math_abs_bytes]
  exact in_t4 (List.mem_of_getElem? (i := 44) rfl) rfl
theorem g_mmax {X : GX} {d mi pc : Nat} {lv : List (Option Value)} {t : List Value} {h : Hp} {n : Nat} {x y : Int32} (hd : decode (mth mi).2.1 pc = .ok (.invokestatic n, 3)) (hw : Jvm.Cond.methodLink (mth mi).1.cls n Lib.Math.max.name ∈ tbl) (hcat : (t.map fun v => v.category).sum ≤ 8) (hdd : 0 < d) (kk : G X d mi (pc + 3) lv (.int (if x < y then y else x) :: t) h) : G X d mi pc lv (.int y :: .int x :: t) h := by
  obtain ⟨⟨p, l, e, R, s⟩, ⟨m, args, below, meth, c⟩, Y, ⟨ce, sl, Q, Rt⟩, o⟩ := X
  intro E H locs ls hP hS hl
  obtain ⟨hx, hcb, hml, hown, hts, hK, hAd, hEx, ⟨hr1, hr2, hr3, hr4⟩, -⟩ := id E
  have hc2 : ((t.map (cz Y.1)).map fun v => v.category).sum ≤ 8 := by
    rw [List.map_map]
    have : (fun v : Value => v.category) ∘ cz Y.1 = fun v => v.category := funext fun v => cz_cat Y.1 v
    rw [this]
    exact hcat
  exact va_mmax hx hcb (hml.trans hl.1.symm) hown (hts _ hw) (hts _ math_max_st) (hts _ math_in) (hts _ math_max_cd) (by omega) (by omega) hr3 hr4 hd (kk E H locs ls hP hS hl)
theorem g_mmin {X : GX} {d mi pc : Nat} {lv : List (Option Value)} {t : List Value} {h : Hp} {n : Nat} {x y : Int32} (hd : decode (mth mi).2.1 pc = .ok (.invokestatic n, 3)) (hw : Jvm.Cond.methodLink (mth mi).1.cls n Lib.Math.min.name ∈ tbl) (hcat : (t.map fun v => v.category).sum ≤ 8) (hdd : 0 < d) (kk : G X d mi (pc + 3) lv (.int (if y < x then y else x) :: t) h) : G X d mi pc lv (.int y :: .int x :: t) h := by
  obtain ⟨⟨p, l, e, R, s⟩, ⟨m, args, below, meth, c⟩, Y, ⟨ce, sl, Q, Rt⟩, o⟩ := X
  intro E H locs ls hP hS hl
  obtain ⟨hx, hcb, hml, hown, hts, hK, hAd, hEx, ⟨hr1, hr2, hr3, hr4⟩, -⟩ := id E
  have hc2 : ((t.map (cz Y.1)).map fun v => v.category).sum ≤ 8 := by
    rw [List.map_map]
    have : (fun v : Value => v.category) ∘ cz Y.1 = fun v => v.category := funext fun v => cz_cat Y.1 v
    rw [this]
    exact hcat
  exact va_mmin hx hcb (hml.trans hl.1.symm) hown (hts _ hw) (hts _ math_min_st) (hts _ math_in) (hts _ math_min_cd) (by omega) (by omega) hr3 hr4 hd (kk E H locs ls hP hS hl)
theorem g_mabs {X : GX} {d mi pc : Nat} {lv : List (Option Value)} {t : List Value} {h : Hp} {n : Nat} {x : Int32} (hd : decode (mth mi).2.1 pc = .ok (.invokestatic n, 3)) (hw : Jvm.Cond.methodLink (mth mi).1.cls n Lib.Math.abs.name ∈ tbl) (hcat : (t.map fun v => v.category).sum ≤ 8) (hdd : 0 < d) (kk : G X d mi (pc + 3) lv (.int (if 0 ≤ x then x else 0 - x) :: t) h) : G X d mi pc lv (.int x :: t) h := by
  obtain ⟨⟨p, l, e, R, s⟩, ⟨m, args, below, meth, c⟩, Y, ⟨ce, sl, Q, Rt⟩, o⟩ := X
  intro E H locs ls hP hS hl
  obtain ⟨hx, hcb, hml, hown, hts, hK, hAd, hEx, ⟨hr1, hr2, hr3, hr4⟩, -⟩ := id E
  have hc2 : ((t.map (cz Y.1)).map fun v => v.category).sum ≤ 8 := by
    rw [List.map_map]
    have : (fun v : Value => v.category) ∘ cz Y.1 = fun v => v.category := funext fun v => cz_cat Y.1 v
    rw [this]
    exact hcat
  exact va_mabs hx hcb (hml.trans hl.1.symm) hown (hts _ hw) (hts _ math_abs_st) (hts _ math_in) (hts _ math_abs_cd) (by omega) (by omega) hr3 hr4 hd (kk E H locs ls hP hS hl)
def ent (vs : List Value) (n : Nat) : List (Option Value) := match vs with
  | [] => List.replicate n none
  | v :: t => if v.category = 2 then some v :: none :: ent t (n - 2) else some v :: ent t (n - 1)
theorem lg_rep : ∀ (n i : Nat), lg (List.replicate n none) i = none
  | 0, _ => rfl
  | _ + 1, 0 => rfl
  | n + 1, i + 1 => lg_rep n i
theorem ent_lg (ad : Nat → Nat) : ∀ (vs : List Value) (n b i : Nat) (v : Value), lg (ent vs n) i = some v → (b + i, cz ad v) ∈ lv_args b (vs.map (cz ad))
  | [], n, b, i, v, h => by
    rw [show ent [] n = List.replicate n none from rfl, lg_rep] at h
    cases h
  | w :: t, n, b, i, v, h => by
    rw [List.map_cons]
    unfold lv_args
    rw [cz_cat]
    unfold ent at h
    by_cases e : w.category = 2
    · rw [if_pos e] at h ⊢
      match i, h with
      | 0, h => cases h; exact List.mem_cons_self
      | 1, h => cases h
      | i + 2, h =>
        have := ent_lg ad t (n - 2) (b + 2) i v h
        rw [show b + 2 + i = b + (i + 2) by omega] at this
        exact List.mem_cons_of_mem _ this
    · rw [if_neg e] at h ⊢
      match i, h with
      | 0, h => cases h; exact List.mem_cons_self
      | i + 1, h =>
        have := ent_lg ad t (n - 1) (b + 1) i v h
        rw [show b + 1 + i = b + (i + 1) by omega] at this
        exact List.mem_cons_of_mem _ this
theorem lg_sl_cz (ad : Nat → Nat) : ∀ vs : List Value, (lg_sl (vs.map (cz ad))).length = (lg_sl vs).length
  | [] => rfl
  | v :: t => by
    have ih := lg_sl_cz ad t
    unfold lg_sl at ih ⊢
    rw [List.map_cons, List.flatMap_cons, List.flatMap_cons, List.length_append, List.length_append, ih, cz_cat]
    by_cases e : v.category = 2
    · rw [if_pos e, if_pos e]; rfl
    · rw [if_neg e, if_neg e]; rfl
set_option maxHeartbeats 1000000 in
/-- A CONTRACT OUT OF A WALK -/
theorem C.of {d mi : Nat} {vs : List Value} {h : Hp} {Q : Option Value → Hp → Prop} (hm : mOk mi = true) (hn : (lg_sl vs).length ≤ (mth mi).2.2.1) (body : ∀ X : GX, (∀ r h', Q r h' → RtX X r h') → G X d mi 0 (ent vs (mth mi).2.2.1) [] h) : C d mi vs h Q := by
  intro l Y hAd
  have hm2 := hm
  unfold mOk at hm2
  simp only [Bool.and_eq_true, decide_eq_true_eq] at hm2
  refine Met.ofW (cc := (mth mi).2.1) (maxL := (mth mi).2.2.1) (ret := (mth mi).2.2.2) hm2.2 rfl ?_
  intro p e s m args below meth c s₁ B hml hv
  obtain ⟨rfl, hP, hK, hEx⟩ := hv
  have hx := B.exec
  have hb := B.bytes
  have hr := B.returns
  have hts := atoms_spec (ws := wdW mi) B.pre
  have hown : s.vm.findClass (mth mi).1.cls = some m.cls := findClass_of_methodNamed B.named
  have hlocks := B.notSynchronized
  have hl := lv_entry (vs.map (cz Y.1)) (n := (mth mi).2.2.1) (by rw [lg_sl_cz]; exact hn)
  rw [lg_entry_eq]
  generalize (lg_sl (vs.map (cz Y.1)) ++ List.replicate ((mth mi).2.2.1 - (lg_sl (vs.map (cz Y.1))).length) Slot.unset).toArray = ls at hl ⊢
  have hlv : lvR Y.1 ls (mth mi).2.2.1 (ent vs (mth mi).2.2.1) := ⟨hl.1, hl.2.1, fun i v hi => by
    have := hl.2.2 _ (ent_lg Y.1 vs (mth mi).2.2.1 0 i v hi)
    rwa [Nat.zero_add] at this⟩
  refine body ((p, l, e, (headSpec (wdW mi) (rmD d)).room, s), (m, (vs.map (cz Y.1)).toArray, below, meth, c), Y, (0, 0, MQ below (QcW Y Q) (vs.map (cz Y.1)).toArray s 0 0 (AW Y), Q), none) (fun _ _ q => q) ⟨hx, hb, hml, hown, fun w hw => hts w (List.mem_cons_of_mem _ hw), hK, hAd, hEx, ⟨Nat.le_refl _, Nat.le_refl _, Nat.le_refl _, Nat.le_refl _⟩, ?_, fun _ _ q => by cases q⟩ s.heap [] ls hP va_S.rf hlv
  intro r h' hq hrk H locs pc ls' hP' hS' hd'
  have hQ : ∀ t : State, t.heap = H → QcW Y Q (vs.map (cz Y.1)).toArray s (.returned (r.map (cz Y.1))) t := fun t ht => ⟨⟨r, h', hq, rfl, by rw [ht]; exact hP'⟩, hS'.F ht⟩
  unfold rok at hrk
  cases r with
  | none =>
    cases ht : (mth mi).2.2.2 with
    | none => exact W.vret hx hb (by rw [hr, ht]) (fun t h1 _ => hQ t h1) hS'.2.2 hd'
    | some ty => rw [ht] at hrk; cases ty <;> exact hrk.elim
  | some v =>
    cases ht : (mth mi).2.2.2 with
    | none => rw [ht] at hrk; exact hrk.elim
    | some ty =>
      rw [ht] at hrk
      cases v with
      | int x =>
        refine W.zret (ty := ty) hx hb (by rw [hr, ht]) ?_ (fun t h1 _ => hQ t h1) hS'.2.2 hd'
        cases ty <;> first | rfl | exact hrk.elim | (rcases hrk with q | q <;> rw [q] <;> rfl)
      | ref a =>
        cases ty <;> first | exact hrk.elim | exact W.aret hx hb (by rw [hr, ht]) (Or.inl ⟨_, rfl⟩) (Or.inr ⟨_, rfl⟩) (fun t h1 _ => hQ t h1) hS'.2.2 hd'
      | _ => cases ty <;> exact hrk.elim
