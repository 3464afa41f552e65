/-! part 05: fields, arrays, returns, calls, contracts -/
theorem tbl_good : ∀ w ∈ tbl, (w.onTables && w.keeps) = true ∨ ∃ ty, w = .arrayClass ty := fun w hw => good_of_word (by
  have := (List.mem_filter.mp hw).2
  simpa using this)
theorem tbl_in {w : Jvm.Cond} {i : Nat} (h : tbl[i]? = some w) : w ∈ tbl := List.mem_of_getElem? h
set_option maxRecDepth 100000 in
theorem cls_at : ∀ ci, ci < 10 → classes[ci]? = some (cnF ci, ftF ci, fnF ci) := by
  intro ci h
  match ci, h with
  | 0, _ => rfl
  | 1, _ => rfl
  | 2, _ => rfl
  | 3, _ => rfl
  | 4, _ => rfl
  | 5, _ => rfl
  | 6, _ => rfl
  | 7, _ => rfl
  | 8, _ => rfl
  | 9, _ => rfl
  | _ + 10, h => omega
theorem cls_in : ∀ ci, ci < 10 → ∀ w ∈ u_ws (cnF ci) (ftF ci) (fnF ci), w ∈ tbl := by decide +kernel
theorem cls_ty : ∀ ci, ci < 10 → ∀ k, k < fnF ci → parseFieldDescriptor (ftF ci k).2.2.1 = some (tyF ci k) := by decide +kernel
theorem cls_nm : ∀ ci, ci < 10 → ∀ a, a < fnF ci → ∀ b, b < fnF ci → a ≠ b → (ftF ci a).2.1 ≠ (ftF ci b).2.1 := by decide +kernel
theorem sh_ci : ∀ c, c < NW → (sh c).1 = 1 → (sh c).2 < 10 := by decide +kernel
theorem sh_c1 {c ci : Nat} (h : sh c = (1, ci)) : ci < 10 := by
  have := sh_ci c (sh_lt h (by decide)) (by rw [h])
  rwa [h] at this
theorem cellE_obj {Y : GY} {c ci : Nat} {f : Nat → Int32} (h : sh c = (1, ci)) : cellE Y c f = .inr (ci, flds Y.1 c ci f) := by unfold cellE; rw [h]; rfl
theorem cellE_arr {Y : GY} {c n : Nat} {f : Nat → Int32} (h : sh c = (0, n)) : cellE Y c f = .inl (Y.2.2 0, n, .inl f) := by unfold cellE; rw [h]; rfl
theorem cellE_ref {Y : GY} {c t : Nat} {f : Nat → Int32} (h : sh c = (2, t)) : cellE Y c f = .inl (Y.2.2 (1 + t), rl t, .inr (.inr (.inr (.inr (fun i => some (Y.1 (re t i))))))) := by unfold cellE; rw [h]; rfl
def fvA (h : Hp) (a ci k : Nat) : Value := match (fk ci k).1 with
  | 0 => .int (h a k)
  | 4 => .int (h a k)
  | 1 => .long (rdL (h a))
  | 2 => .ref (a + (fk ci k).2)
  | _ => .ref (fk ci k).2
theorem cz_fvA (ad : Nat → Nat) (h : Hp) (a ci k : Nat) : cz ad (fvA h a ci k) = fval ad a ci (h a) k := by
  unfold fvA fval
  generalize (fk ci k).1 = q
  match q with
  | 0 => rfl
  | 1 => rfl
  | 2 => rfl
  | 3 => rfl
  | 4 => rfl
  | _ + 5 => rfl
theorem g_getf {X : GX} {d mi pc : Nat} {lv : List (Option Value)} {t : List Value} {h : Hp} {n a ci k : Nat} (hd : decode (mth mi).2.1 pc = .ok (.getfield n, 3)) (hw : Jvm.Cond.fieldLink (mth mi).1.cls n (cnF ci) (ftF ci k).2.1 (ftF ci k).2.2.1 ∈ tbl) (hk : k < fnF ci) (hcl : (ftF ci k).1 = cnF ci) (ha : sh a = (1, ci)) (kk : G X d mi (pc + 3) lv (fvA h a ci k :: t) h) : G X d mi pc lv (.ref a :: t) h := by
  obtain ⟨⟨p, l, e, R, s⟩, ⟨m, args, below, meth, c⟩, Y, ⟨ce, sl, Q, Rt⟩, o⟩ := X
  intro E H locs ls hP hS hl
  have h2 := kk E H locs ls hP hS hl
  rw [List.map_cons, cz_fvA] at h2
  exact va_get (D := Y.2.1) (ci := ci) E.1 E.2.1 E.2.2.2.2.1 (cls_in ci (sh_c1 ha)) E.2.2.2.1 E.2.2.2.2.2.1 hP a (by rw [wsW_at Y h (sh_lt ha (by decide)), cellE_obj ha]) (cls_at ci (sh_c1 ha)) k hk (E.2.2.2.2.1 _ hw) (fun x hx => by rw [← hcl]; exact hx) (flds_at hk) hd h2
theorem g_putf {X : GX} {d mi pc : Nat} {lv : List (Option Value)} {t : List Value} {h : Hp} {n a ci k : Nat} {x : Int32} (hd : decode (mth mi).2.1 pc = .ok (.putfield n, 3)) (hw : Jvm.Cond.fieldLink (mth mi).1.cls n (cnF ci) (ftF ci k).2.1 (ftF ci k).2.2.1 ∈ tbl) (hk : k < fnF ci) (hk2 : k < 100) (hcl : (ftF ci k).1 = cnF ci) (hfin : (ftF ci k).2.2.2 = false) (hf : ((fk ci k).1 = 0 ∧ tyF ci k = .int) ∨ ((fk ci k).1 = 4 ∧ tyF ci k = .boolean ∧ (x = 0 ∨ x = 1))) (ha : sh a = (1, ci)) (kk : G X d mi (pc + 3) lv t (wr h a k x)) : G X d mi pc lv (.int x :: .ref a :: t) h := by
  obtain ⟨⟨p, l, e, R, s⟩, ⟨m, args, below, meth, c⟩, Y, ⟨ce, sl, Q, Rt⟩, o⟩ := X
  intro E H locs ls hP hS hl
  have hc1 := sh_c1 ha
  have hn : narrow (tyF ci k) (.int x) = .int x := by
    rcases hf with ⟨-, q⟩ | ⟨-, q, r | r⟩ <;> rw [q] <;> first | rfl | (rw [r]; rfl)
  have hfit : fits (tyF ci k) (.int x) = true := by
    rcases hf with ⟨-, q⟩ | ⟨-, q, r | r⟩ <;> rw [q] <;> first | rfl | (rw [r]; rfl)
  have hkd : (fk ci k).1 = 0 ∨ (fk ci k).1 = 4 := by
    rcases hf with ⟨q, -⟩ | ⟨q, -⟩
    · exact Or.inl q
    · exact Or.inr q
  refine va_put (D := Y.2.1) (ci := ci) E.1 E.2.1 E.2.2.2.2.1 (cls_in ci hc1) (tyF ci) (cls_ty ci hc1) (cls_nm ci hc1) E.2.2.2.1 E.2.2.2.2.2.1 hP (wsW_D E.2.2.2.2.2.2.1 h) hS a (by rw [wsW_at Y h (sh_lt ha (by decide)), cellE_obj ha]) (cls_at ci hc1) k hk (E.2.2.2.2.1 _ hw) (fun x hx => by rw [← hcl]; exact hx) hfin (cls_ty ci hc1 k hk) hn hfit (by rw [flds_len]; exact hk) hd (fun H1 locs1 hP1 hD1 hS1 => ?_)
  rw [show cz Y.1 (Value.int x) = Value.int x from rfl, flds_set hk hk2 hkd, ← cellE_obj (Y := Y) ha, wsW_set (h' := wr h a k x) (sh_lt ha (by decide)) (fun j hj => wr_c hj)] at hP1
  exact kk E H1 locs1 ls hP1 hS1 hl
theorem g_putl {X : GX} {d mi pc : Nat} {lv : List (Option Value)} {t : List Value} {h : Hp} {n a ci k : Nat} {x : Int64} (hd : decode (mth mi).2.1 pc = .ok (.putfield n, 3)) (hw : Jvm.Cond.fieldLink (mth mi).1.cls n (cnF ci) (ftF ci k).2.1 (ftF ci k).2.2.1 ∈ tbl) (hk : k < fnF ci) (hN : fnF ci ≤ 100) (hcl : (ftF ci k).1 = cnF ci) (hfin : (ftF ci k).2.2.2 = false) (hf : (fk ci k).1 = 1 ∧ tyF ci k = .long) (hu : ∀ j, j < fnF ci → (fk ci j).1 = 1 → j = k) (ha : sh a = (1, ci)) (kk : G X d mi (pc + 3) lv t (wrL h a x)) : G X d mi pc lv (.long x :: .ref a :: t) h := by
  obtain ⟨⟨p, l, e, R, s⟩, ⟨m, args, below, meth, c⟩, Y, ⟨ce, sl, Q, Rt⟩, o⟩ := X
  intro E H locs ls hP hS hl
  have hc1 := sh_c1 ha
  refine va_put (D := Y.2.1) (ci := ci) E.1 E.2.1 E.2.2.2.2.1 (cls_in ci hc1) (tyF ci) (cls_ty ci hc1) (cls_nm ci hc1) E.2.2.2.1 E.2.2.2.2.2.1 hP (wsW_D E.2.2.2.2.2.2.1 h) hS a (by rw [wsW_at Y h (sh_lt ha (by decide)), cellE_obj ha]) (cls_at ci hc1) k hk (E.2.2.2.2.1 _ hw) (fun x hx => by rw [← hcl]; exact hx) hfin (cls_ty ci hc1 k hk) (by rw [hf.2]; rfl) (by rw [hf.2]; rfl) (by rw [flds_len]; exact hk) hd (fun H1 locs1 hP1 hD1 hS1 => ?_)
  rw [show cz Y.1 (Value.long x) = Value.long x from rfl, flds_setL hk hN hf.1 hu, ← cellE_obj (Y := Y) ha, wsW_set (h' := wrL h a x) (sh_lt ha (by decide)) (fun j hj => wrL_c hj)] at hP1
  exact kk E H1 locs1 ls hP1 hS1 hl
/-- i is a place of the int array a -/
def IA (a : Nat) (i : Int32) : Prop := (sh a).1 = 0 ∧ vp_in i (sh a).2
theorem IA.of {a n k : Nat} (hs : sh a = (0, n)) (hk : k < n) (hn : n < 2 ^ 31) : IA a (nI k) := by
  unfold IA
  rw [hs]
  exact ⟨rfl, vp_in_nI hk hn⟩
theorem g_iald {X : GX} {d mi pc : Nat} {lv : List (Option Value)} {t : List Value} {h : Hp} {a : Nat} {i : Int32} (hd : decode (mth mi).2.1 pc = .ok (.iaload, 1)) (ha : IA a i) (kk : G X d mi (pc + 1) lv (.int (h a i.toNatClampNeg) :: t) h) : G X d mi pc lv (.int i :: .ref a :: t) h := by
  obtain ⟨⟨p, l, e, R, s⟩, ⟨m, args, below, meth, c⟩, Y, ⟨ce, sl, Q, Rt⟩, o⟩ := X
  intro E H locs ls hP hS hl
  obtain ⟨n, hn⟩ : ∃ n, sh a = (0, n) := ⟨(sh a).2, by rw [← ha.1]⟩
  have hin := ha.2
  rw [hn] at hin
  exact va_iald (f := h a) E.1 E.2.1 E.2.2.2.2.2.1 hP a 0 (by rw [wsW_at Y h (sh_lt hn (by decide)), cellE_arr hn]) rfl hin hd (kk E H locs ls hP hS hl)
theorem g_iast {X : GX} {d mi pc : Nat} {lv : List (Option Value)} {t : List Value} {h : Hp} {a : Nat} {i x : Int32} (hd : decode (mth mi).2.1 pc = .ok (.iastore, 1)) (ha : IA a i) (kk : G X d mi (pc + 1) lv t (wr h a i.toNatClampNeg x)) : G X d mi pc lv (.int x :: .int i :: .ref a :: t) h := by
  obtain ⟨⟨p, l, e, R, s⟩, ⟨m, args, below, meth, c⟩, Y, ⟨ce, sl, Q, Rt⟩, o⟩ := X
  intro E H locs ls hP hS hl
  obtain ⟨n, hn⟩ : ∃ n, sh a = (0, n) := ⟨(sh a).2, by rw [← ha.1]⟩
  have hin := ha.2
  rw [hn] at hin
  refine va_iast (f := h a) E.1 E.2.1 E.2.2.2.2.2.1 hP (wsW_D E.2.2.2.2.2.2.1 h) hS a 0 (by rw [wsW_at Y h (sh_lt hn (by decide)), cellE_arr hn]) rfl hin hd (fun H1 locs1 hP1 hD1 hS1 => ?_)
  rw [← wr_row, ← cellE_arr (Y := Y) hn, wsW_set (h' := wr h a i.toNatClampNeg x) (sh_lt hn (by decide)) (fun j hj => wr_c hj)] at hP1
  exact kk E H1 locs1 ls hP1 hS1 hl
theorem g_aald {X : GX} {d mi pc : Nat} {lv : List (Option Value)} {t : List Value} {h : Hp} {a tt : Nat} {i : Int32} (hd : decode (mth mi).2.1 pc = .ok (.aaload, 1)) (htt : tt < 2) (ha : sh a = (2, tt)) (hin : vp_in i (rl tt)) (kk : G X d mi (pc + 1) lv (.ref (re tt i.toNatClampNeg) :: t) h) : G X d mi pc lv (.int i :: .ref a :: t) h := by
  obtain ⟨⟨p, l, e, R, s⟩, ⟨m, args, below, meth, c⟩, Y, ⟨ce, sl, Q, Rt⟩, o⟩ := X
  intro E H locs ls hP hS hl
  have hq := hP a _ (wsW_at Y h (sh_lt ha (by decide)))
  rw [cellE_ref ha] at hq
  have hlt : i.toNatClampNeg < rl tt := Nat.not_le.mp fun q => hin (Or.inr q)
  obtain ⟨ty, hty, href⟩ : ∃ ty : FieldType, (tysW Y)[1 + tt]? = some (Y.2.2 (1 + tt), ty) ∧ ty.isReference = true := by
    rcases (show tt = 0 ∨ tt = 1 by omega) with rfl | rfl
    · exact ⟨_, rfl, rfl⟩
    · exact ⟨_, rfl, rfl⟩
  exact W.aald (v := .ref (Y.1 (re tt i.toNatClampNeg))) (ty := ty) E.1 E.2.1 hq ((E.2.2.2.2.2.1.2 (1 + tt) _ hty).1 (rl tt) (fun j => va_rf (some (Y.1 (re tt j))))) href (fun q => by cases q) (by show ¬ (i < 0 ∨ (arrV _ _ _).slots.size ≤ _); rw [arrV_size]; exact hin) (by show (arrV _ _ _).slots[_]? = _; rw [arrV_read _ _ hlt]; rfl) rfl rfl hd (kk E H locs ls hP hS hl)
theorem g_alen {X : GX} {d mi pc : Nat} {lv : List (Option Value)} {t : List Value} {h : Hp} {a n : Nat} (hd : decode (mth mi).2.1 pc = .ok (.arraylength, 1)) (hn : sh a = (0, n)) (kk : G X d mi (pc + 1) lv (.int (nI n) :: t) h) : G X d mi pc lv (.ref a :: t) h := by
  obtain ⟨⟨p, l, e, R, s⟩, ⟨m, args, below, meth, c⟩, Y, ⟨ce, sl, Q, Rt⟩, o⟩ := X
  intro E H locs ls hP hS hl
  exact va_alen E.1 E.2.1 E.2.2.2.2.2.1 hP a 0 (by rw [wsW_at Y h (sh_lt hn (by decide)), cellE_arr hn]) rfl (v := nI n) rfl hd (kk E H locs ls hP hS hl)
/-- the law's script -/
theorem g_sld {X : GX} {d mi pc : Nat} {lv : List (Option Value)} {t : List Value} {h : Hp} {L : Nat} {xs : Nat → Int32} {i : Int32} (ho : X.2.2.2.2 = some (L, xs)) (hd : decode (mth mi).2.1 pc = .ok (.iaload, 1)) (hin : vp_in i L) (kk : G X d mi (pc + 1) lv (.int (xs i.toNatClampNeg) :: t) h) : G X d mi pc lv (.int i :: .ref 999 :: t) h := by
  obtain ⟨⟨p, l, e, R, s⟩, ⟨m, args, below, meth, c⟩, Y, ⟨ce, sl, Q, Rt⟩, o⟩ := X
  intro E H locs ls hP hS hl
  obtain ⟨q1, q2, q3⟩ := E.2.2.2.2.2.2.2.2.2.2 L xs ho
  exact va_sld E.1 E.2.1 q1 q2 q3 hS hin hd (kk E H locs ls hP hS hl)
theorem g_slen {X : GX} {d mi pc : Nat} {lv : List (Option Value)} {t : List Value} {h : Hp} {L : Nat} {xs : Nat → Int32} (ho : X.2.2.2.2 = some (L, xs)) (hd : decode (mth mi).2.1 pc = .ok (.arraylength, 1)) (kk : G X d mi (pc + 1) lv (.int (nI L) :: t) h) : G X d mi pc lv (.ref 999 :: t) h := by
  obtain ⟨⟨p, l, e, R, s⟩, ⟨m, args, below, meth, c⟩, Y, ⟨ce, sl, Q, Rt⟩, o⟩ := X
  intro E H locs ls hP hS hl
  obtain ⟨q1, q2, q3⟩ := E.2.2.2.2.2.2.2.2.2.2 L xs ho
  exact va_slen E.1 E.2.1 q1 q2 q3 hS hd (kk E H locs ls hP hS hl)
/-- the class's table of bodies -/
theorem g_gets {X : GX} {d mi pc : Nat} {lv : List (Option Value)} {t : List Value} {h : Hp} {n : Nat} (hd : decode (mth mi).2.1 pc = .ok (.getstatic n, 3)) (hw : Jvm.Cond.fieldLink (mth mi).1.cls n "PlayedTruth$Acting" "BODY_OF" "[I" ∈ tbl) (kk : G X d mi (pc + 3) lv (.ref 997 :: t) h) : G X d mi pc lv t h := by
  obtain ⟨⟨p, l, e, R, s⟩, ⟨m, args, below, meth, c⟩, Y, ⟨ce, sl, Q, Rt⟩, o⟩ := X
  intro E H locs ls hP hS hl
  exact va_gets E.1 E.2.1 E.2.2.2.2.2.2.2.1.1 hS E.2.2.2.1 (E.2.2.2.2.1 _ hw) (fun x hx => hx) hd (kk E H locs ls hP hS hl)
theorem g_tld {X : GX} {d mi pc : Nat} {lv : List (Option Value)} {t : List Value} {h : Hp} {i : Int32} (hd : decode (mth mi).2.1 pc = .ok (.iaload, 1)) (hin : vp_in i 24) (kk : G X d mi (pc + 1) lv (.int (bodyOf i.toNatClampNeg) :: t) h) : G X d mi pc lv (.int i :: .ref 997 :: t) h := by
  obtain ⟨⟨p, l, e, R, s⟩, ⟨m, args, below, meth, c⟩, Y, ⟨ce, sl, Q, Rt⟩, o⟩ := X
  intro E H locs ls hP hS hl
  exact va_ti E.1 E.2.1 E.2.2.2.2.2.2.2.1.2.1 hS hin rfl hd (kk E H locs ls hP hS hl)
theorem g_ret {X : GX} {d mi pc : Nat} {lv : List (Option Value)} {h : Hp} {r : Option Value} (hd : decode (mth mi).2.1 pc = .ok (rIn r, 1)) (hr : rok mi r) (hq : RtX X r h) : G X d mi pc lv r.toList h := by
  obtain ⟨⟨p, l, e, R, s⟩, ⟨m, args, below, meth, c⟩, Y, ⟨ce, sl, Q, Rt⟩, o⟩ := X
  intro E H locs ls hP hS hl
  exact E.2.2.2.2.2.2.2.2.2.1 r h hq hr H locs pc ls hP hS hd
/-- fewer locals -/
theorem g_le {X : GX} {d mi pc : Nat} {lv lv' : List (Option Value)} {t : List Value} {h : Hp} (hs : ∀ (i : Nat) (v : Value), lg lv' i = some v → lg lv i = some v) (k : G X d mi pc lv' t h) : G X d mi pc lv t h := by
  obtain ⟨⟨p, l, e, R, s⟩, ⟨m, args, below, meth, c⟩, Y, ⟨ce, sl, Q, Rt⟩, o⟩ := X
  intro E H locs ls hP hS hl
  exact k E H locs ls hP hS (hl.le hs)
