/-! part 99p: K: new cells, fields, calls of constructors -/
theorem k_new {X : KX} {d mi pc nn : Nat} {lv : List (Option Value)} {t : List Value} {h : Hp} {ix ci : Nat} (hd : decode (mth mi).2.1 pc = .ok (.new ix, 3)) (hcl : Jvm.Cond.classLink (mth mi).1.cls ix (cnF ci) ∈ tbl) (hin : Jvm.Cond.instantiable (cnF ci) (fnF ci) ∈ tbl) (hini : Jvm.Cond.initialized (cnF ci) ∈ tbl) (hs : sh nn = (1, ci)) (hm : nn < nmK X) (k : K X d mi (pc + 3) lv (.ref nn :: t) h (nn + 1)) : K X d mi pc lv t h nn := by
  obtain ⟨⟨p, l, e, R, s⟩, ⟨m, args, below, meth, c⟩, ⟨D, ct, S0⟩, ⟨n0, nm, ad0⟩, Q, Rt⟩ := X
  intro E hb hw o1 o2 ad H locs ls ha hA hP hS hl
  obtain ⟨hx, hcb, hml, hown, hts, hK, hNs, ⟨hr1, hr2, hr3, hr4⟩, ⟨hz1, hz2, hz3, hz4⟩, hret⟩ := id E
  have hm : nn < nm := hm
  have hn9 : nn < 900 := by have : NW = 101 := rfl; omega
  have hc10 := sh_c1 hs
  have hlo := szN_mono hb.1
  have e3 : szN (nn + 1) = szN nn + fnF ci := by
    show szN nn + szc nn = _
    unfold szc
    rw [hs]
    rfl
  have hsz := szN_mono (a := nn + 1) (b := nm) hm
  refine va_new (D := D) (ci := ci) (fs := dfL ci) (C := cnF ci) (T := ftF ci) (N := fnF ci) hx hcb hts (cls_in ci hc10) (tyF ci) (cls_ty ci hc10) hown (hts _ hcl) (hts _ hin) (hts _ hini) hK hP (wsN_D hA) hS (fun q hq => Nat.le_trans hz1 hq) (cls_at ci hc10) (df_ok hc10) (by omega) (by omega) hd (fun q H1 hP1 hD1 hS1 => ?_)
  have hA1 := AdN_P hA hD1 wsN_len (fun i hi => ⟨_, wsN_at hi⟩)
  rw [wsN_P (by omega) hw (fun ad' => by rw [cellN_obj hs, fldN_z hs])] at hP1
  have h9 := k E ⟨by omega, hm⟩ (wfN_succ hw) (ok_cons (Or.inl (Nat.lt_succ_self nn)) (fun v hv => vOk_S (o1 v hv))) (fun i v hi => vOk_S (o2 i v hi)) (adP ad nn q) H1 locs ls (fun c hc => by rw [adP_ag hn9 c (by omega)]; exact ha c hc) hA1 hP1 hS1 (lvR_P hl (adP_ag hn9) o2)
  rw [List.map_cons, st_P (adP_ag hn9) o1, show cz (adP ad nn q) (.ref nn) = .ref q from by show Value.ref _ = _; rw [adP_n]] at h9
  rw [show nn - n0 + 1 = nn + 1 - n0 by omega, show szN nn - szN n0 + fnF ci = szN (nn + 1) - szN n0 by omega]
  exact h9
theorem arr_ct {D : va_G} {ct : Nat → ClassId} {s : State} {cA : ClassId} (h : va_K D classes (tysC ct) s) (h2 : va_K D classes (tysC ct ++ [(cA, .int)]) s) : cA = ct 0 := by
  have h3 : va_RA s (ct 0) .int := (h.2 0 _ rfl).2
  have h4 : va_RA s cA .int := (h2.2 3 _ rfl).2
  unfold va_RA at h3 h4
  exact Option.some.inj (h4.symm.trans h3)
theorem arr_cq {D : va_G} {ct : Nat → ClassId} {s : State} {cA : ClassId} (h : va_K D classes (tysC ct) s) (h2 : va_K D classes (tysC ct ++ [(cA, .object "PlayedTruth$Moment")]) s) : cA = ct 1 := by
  have h3 : va_RA s (ct 1) (.object "PlayedTruth$Moment") := (h.2 1 _ rfl).2
  have h4 : va_RA s cA (.object "PlayedTruth$Moment") := (h2.2 3 _ rfl).2
  unfold va_RA at h3 h4
  obtain ⟨_, _, _, _, _, h3⟩ := h3
  obtain ⟨_, _, _, _, _, h4⟩ := h4
  exact Option.some.inj (h4.symm.trans h3)
theorem k_newa {X : KX} {d mi pc nn N : Nat} {lv : List (Option Value)} {t : List Value} {h : Hp} {n : Int32} (hd : decode (mth mi).2.1 pc = .ok (.newarray .int, 2)) (hw9 : Jvm.Cond.arrayClass .int ∈ tbl) (hs : sh nn = (0, N)) (hN : n = nI N) (hN2 : N < 1000) (hm : nn < nmK X) (k : K X d mi (pc + 2) lv (.ref nn :: t) h (nn + 1)) : K X d mi pc lv (.int n :: t) h nn := by
  obtain ⟨⟨p, l, e, R, s⟩, ⟨m, args, below, meth, c⟩, ⟨D, ct, S0⟩, ⟨n0, nm, ad0⟩, Q, Rt⟩ := X
  subst hN
  intro E hb hw o1 o2 ad H locs ls ha hA hP hS hl
  obtain ⟨hx, hcb, hml, hown, hts, hK, hNs, ⟨hr1, hr2, hr3, hr4⟩, ⟨hz1, hz2, hz3, hz4⟩, hret⟩ := id E
  have hm : nn < nm := hm
  have hn9 : nn < 900 := by have : NW = 101 := rfl; omega
  have o9 := ok_tl o1
  have hlo := szN_mono hb.1
  have e3 : szN (nn + 1) = szN nn + N := by
    show szN nn + szc nn = _
    unfold szc
    rw [hs]
    rfl
  have hsz := szN_mono (a := nn + 1) (b := nm) hm
  have hin : vp_in (nI N) (N + 1) := vp_in_nI (by omega) (by omega)
  have hn0 : ¬ nI N < 0 := fun q => hin (Or.inl q)
  refine va_newa (atype := .int) (ty := .int) (D := D) (N' := N) (a0 := (N, .inl (fun _ => 0))) hx hcb (hts _ hw9) rfl hK hP (wsN_D hA) hS (fun q hq => Nat.le_trans hz1 hq) (fun cA => vp_cell_i cA N (fun _ => 0)) hn0 (nI_clamp (by omega)) (by show N * 4 ≤ _; omega) (by omega) (by omega) hd (fun q cA H1 hK1 hP1 hD1 hS1 => ?_)
  obtain rfl := arr_ct hK hK1
  have hA1 := AdN_P hA hD1 wsN_len (fun i hi => ⟨_, wsN_at hi⟩)
  rw [wsN_P (by omega) hw (fun ad' => by rw [cellN_arr hs, zH_c (by intro e; subst e; cases hs)])] at hP1
  have h9 := k E ⟨by omega, hm⟩ (wfN_succ hw) (ok_cons (Or.inl (Nat.lt_succ_self nn)) (fun v hv => vOk_S (o9 v hv))) (fun i v hi => vOk_S (o2 i v hi)) (adP ad nn q) H1 locs ls (fun c hc => by rw [adP_ag hn9 c (by omega)]; exact ha c hc) hA1 hP1 hS1 (lvR_P hl (adP_ag hn9) o2)
  rw [List.map_cons, st_P (adP_ag hn9) o9, show cz (adP ad nn q) (.ref nn) = .ref q from by show Value.ref _ = _; rw [adP_n]] at h9
  rw [show nn - n0 + 1 = nn + 1 - n0 by omega, show szN nn - szN n0 + N = szN (nn + 1) - szN n0 by omega]
  exact h9
theorem k_newq {X : KX} {d mi pc nn ix : Nat} {lv : List (Option Value)} {t : List Value} {h : Hp} {n : Int32} (hd : decode (mth mi).2.1 pc = .ok (.anewarray ix, 3)) (hcl : Jvm.Cond.classLink (mth mi).1.cls ix "PlayedTruth$Moment" ∈ tbl) (hs : sh nn = (2, 0)) (hN : n = nI 5) (hm : nn < nmK X) (k : K X d mi (pc + 3) lv (.ref nn :: t) h (nn + 1)) : K X d mi pc lv (.int n :: t) h nn := by
  obtain ⟨⟨p, l, e, R, s⟩, ⟨m, args, below, meth, c⟩, ⟨D, ct, S0⟩, ⟨n0, nm, ad0⟩, Q, Rt⟩ := X
  subst hN
  intro E hb hw o1 o2 ad H locs ls ha hA hP hS hl
  obtain ⟨hx, hcb, hml, hown, hts, hK, hNs, ⟨hr1, hr2, hr3, hr4⟩, ⟨hz1, hz2, hz3, hz4⟩, hret⟩ := id E
  have hm : nn < nm := hm
  have hn9 : nn < 900 := by have : NW = 101 := rfl; omega
  have o9 := ok_tl o1
  have hlo := szN_mono hb.1
  have e3 : szN (nn + 1) = szN nn + 5 := by
    show szN nn + szc nn = _
    unfold szc
    rw [hs]
    rfl
  have hsz := szN_mono (a := nn + 1) (b := nm) hm
  refine va_newq (D := D) (N' := 5) hx hcb hown (hts _ hcl) hNs.2.1 hK hP (wsN_D hA) hS (fun q hq => Nat.le_trans hz1 hq) (by decide) (by decide) (by decide) (by omega) (by omega) hd (fun q cA H1 hK1 hP1 hD1 hS1 => ?_)
  obtain rfl := arr_cq hK hK1
  have hA1 := AdN_P hA hD1 wsN_len (fun i hi => ⟨_, wsN_at hi⟩)
  rw [wsN_P (by omega) hw (fun ad' => by rw [cellN_ref hs, zH_c (by intro e; subst e; cases hs)]; rfl)] at hP1
  have h9 := k E ⟨by omega, hm⟩ (wfN_succ hw) (ok_cons (Or.inl (Nat.lt_succ_self nn)) (fun v hv => vOk_S (o9 v hv))) (fun i v hi => vOk_S (o2 i v hi)) (adP ad nn q) H1 locs ls (fun c hc => by rw [adP_ag hn9 c (by omega)]; exact ha c hc) hA1 hP1 hS1 (lvR_P hl (adP_ag hn9) o2)
  rw [List.map_cons, st_P (adP_ag hn9) o9, show cz (adP ad nn q) (.ref nn) = .ref q from by show Value.ref _ = _; rw [adP_n]] at h9
  rw [show nn - n0 + 1 = nn + 1 - n0 by omega, show szN nn - szN n0 + 5 = szN (nn + 1) - szN n0 by omega]
  exact h9
theorem fvN_wr {ad : Nat → Nat} {h : Hp} {a c ci k j : Nat} {x : Int32} (hk : k < 100) (e : j ≠ k) : fvN ad c ci (wr h a k x c) j = fvN ad c ci (h c) j := by
  unfold fvN
  rw [wr_k e, rdL_wr hk]
theorem fldN_set {ad : Nat → Nat} {h : Hp} {c ci k : Nat} {x : Int32} {v : Value} (hk : k < fnF ci) (hk2 : k < 100) (hv : fvN ad c ci (wr h c k x c) k = v) : (fldN ad c ci (h c)).set k v = fldN ad c ci (wr h c k x c) := by
  apply List.ext_getElem?
  intro j
  rcases Nat.lt_or_ge j (fnF ci) with hj | hj
  · rw [fldN_at hj]
    by_cases e : j = k
    · subst e
      rw [List.getElem?_set_self (by rw [fldN_len]; exact hj), hv]
    · rw [List.getElem?_set_ne (fun q => e q.symm), fldN_at hj, fvN_wr hk2 e]
  · rw [List.getElem?_eq_none (by rw [List.length_set, fldN_len]; exact hj), List.getElem?_eq_none (by rw [fldN_len]; exact hj)]
theorem k_putv {X : KX} {d mi pc nn : Nat} {lv : List (Option Value)} {t : List Value} {h : Hp} {ix a ci k : Nat} {x : Int32} {v : Value} (hd : decode (mth mi).2.1 pc = .ok (.putfield ix, 3)) (hlk : Jvm.Cond.fieldLink (mth mi).1.cls ix (cnF ci) (ftF ci k).2.1 (ftF ci k).2.2.1 ∈ tbl) (hk : k < fnF ci) (hcl : (ftF ci k).1 = cnF ci) (hcn : cnF ci = (mth mi).1.cls) (hnm : (mth mi).1.name = "<init>") (hs : sh a = (1, ci))
    (hn : ∀ ad, narrow (tyF ci k) (cz ad v) = cz ad v) (hfit : ∀ ad, fits (tyF ci k) (cz ad v) = true) (hv : ∀ ad, fvN ad a ci (wr h a k x a) k = cz ad v) (hwf : wfN h nn → vOk nn v → a < nn → wfN (wr h a k x) nn) (kk : K X d mi (pc + 3) lv t (wr h a k x) nn) : K X d mi pc lv (v :: .ref a :: t) h nn := by
  obtain ⟨⟨p, l, e, R, s⟩, ⟨m, args, below, meth, c⟩, ⟨D, ct, S0⟩, ⟨n0, nm, ad0⟩, Q, Rt⟩ := X
  intro E hb hw o1 o2 ad H locs ls ha hA hP hS hl
  obtain ⟨hx, hcb, hml, hown, hts, hK, hNs, ⟨hr1, hr2, hr3, hr4⟩, ⟨hz1, hz2, hz3, hz4⟩, hret⟩ := id E
  have hc1 := sh_c1 hs
  have han : a < nn := vOk_lt (o1 (.ref a) (List.mem_cons_of_mem _ List.mem_cons_self)) (sh_lt hs (by decide))
  have hvn : vOk nn v := o1 v List.mem_cons_self
  have hk2 : k < 100 := Nat.lt_of_lt_of_le hk (fn_le ci hc1)
  have fin : ∀ (H1 : Heap) (locs1 : List Loc), va_P D classes ((wsN ad ct h nn).set a (ad a, .inr (ci, (fldN ad a ci (h a)).set k (cz ad v)))) H1 → va_D (AK S0) ((wsN ad ct h nn).set a (ad a, .inr (ci, (fldN ad a ci (h a)).set k (cz ad v)))) → va_S (AK S0) s.heap H1 locs1 → W p l e R s m args below meth c H1 locs1 (nn - n0) (szN nn - szN n0) Q (F0 m (pc + 3) ls (t.map (cz ad))) := by
    intro H1 locs1 hP1 _ hS1
    rw [fldN_set (x := x) hk hk2 (hv ad), ← cellN_obj (ct := ct) hs, wsN_set (h' := wr h a k x) han (fun j hj => wr_c hj)] at hP1
    exact kk E hb (hwf hw hvn han) (ok_tl (ok_tl o1)) o2 ad H1 locs1 ls ha hA hP1 hS1 hl
  cases hf : (ftF ci k).2.2.2 with
  | false => exact va_put (D := D) (ci := ci) hx hcb hts (cls_in ci hc1) (tyF ci) (cls_ty ci hc1) (cls_nm ci hc1) hown hK hP (wsN_D hA) hS a (by rw [wsN_at han, cellN_obj hs]) (cls_at ci hc1) k hk (hts _ hlk) (fun x hx => by rw [← hcl]; exact hx) hf (cls_ty ci hc1 k hk) (hn ad) (hfit ad) (by rw [fldN_len]; exact hk) hd fin
  | true => exact va_putF (D := D) (ci := ci) hx hcb hts (cls_in ci hc1) (tyF ci) (cls_ty ci hc1) (cls_nm ci hc1) hown hK hP (wsN_D hA) hS a (by rw [wsN_at han, cellN_obj hs]) (cls_at ci hc1) k hk (hts _ hlk) (fun x hx => by rw [← hcl]; exact hx) hf (hz4 hnm) (by rw [hcl]; exact hcn) (cls_ty ci hc1 k hk) (hn ad) (hfit ad) (by rw [fldN_len]; exact hk) hd fin
theorem k_putI {X : KX} {d mi pc nn : Nat} {lv : List (Option Value)} {t : List Value} {h : Hp} {ix a ci k : Nat} {x : Int32} (hd : decode (mth mi).2.1 pc = .ok (.putfield ix, 3)) (hlk : Jvm.Cond.fieldLink (mth mi).1.cls ix (cnF ci) (ftF ci k).2.1 (ftF ci k).2.2.1 ∈ tbl) (hk : k < fnF ci) (hcl : (ftF ci k).1 = cnF ci) (hcn : cnF ci = (mth mi).1.cls) (hnm : (mth mi).1.name = "<init>") (hf : ((fk ci k).1 = 0 ∧ tyF ci k = .int) ∨ ((fk ci k).1 = 4 ∧ tyF ci k = .boolean ∧ (x = 0 ∨ x = 1))) (hs : sh a = (1, ci)) (kk : K X d mi (pc + 3) lv t (wr h a k x) nn) : K X d mi pc lv (.int x :: .ref a :: t) h nn := by
  refine k_putv (v := .int x) hd hlk hk hcl hcn hnm hs (fun ad => ?_) (fun ad => ?_) (fun ad => ?_) (fun hw _ ha => wfN_wr hw ha (fun c2 q r => ?_) (fun t q => by rw [hs] at q; cases q)) kk
  · rcases hf with ⟨-, q⟩ | ⟨-, q, r | r⟩ <;> rw [q] <;> first | rfl | (rw [r]; rfl)
  · rcases hf with ⟨-, q⟩ | ⟨-, q, r | r⟩ <;> rw [q] <;> first | rfl | (rw [r]; rfl)
  · unfold fvN
    rcases hf with ⟨q, -⟩ | ⟨q, -⟩ <;> rw [q] <;> simp only [wr_self] <;> rfl
  · rw [hs] at q
    cases q
    unfold isR at r
    rcases hf with ⟨q, -⟩ | ⟨q, -⟩
    · exact absurd q r.1
    · exact absurd q r.2.2
theorem rt_narrow {ty : FieldType} {a : Nat} (h : isRT ty = true) : narrow ty (.ref a) = .ref a := by cases ty <;> first | rfl | cases h
theorem rt_fits {ty : FieldType} {a : Nat} (h : isRT ty = true) : fits ty (.ref a) = true := by cases ty <;> first | rfl | cases h
theorem k_putR {X : KX} {d mi pc nn : Nat} {lv : List (Option Value)} {t : List Value} {h : Hp} {ix a ci k b : Nat} (hd : decode (mth mi).2.1 pc = .ok (.putfield ix, 3)) (hlk : Jvm.Cond.fieldLink (mth mi).1.cls ix (cnF ci) (ftF ci k).2.1 (ftF ci k).2.2.1 ∈ tbl) (hk : k < fnF ci) (hcl : (ftF ci k).1 = cnF ci) (hcn : cnF ci = (mth mi).1.cls) (hnm : (mth mi).1.name = "<init>") (hf : (fk ci k).1 = 2 ∨ (fk ci k).1 = 3) (hs : sh a = (1, ci)) (hb : tgN a ci k = b) (hb9 : b < NW) (kk : K X d mi (pc + 3) lv t (wr h a k 1) nn) : K X d mi pc lv (.ref b :: .ref a :: t) h nn := by
  subst hb
  have hr : isRT (tyF ci k) = true := by
    rcases kd_ty ci (sh_c1 hs) k hk with ⟨q, _⟩ | ⟨q, _⟩ | ⟨q, _⟩ | ⟨_, q⟩
    · rcases hf with r | r <;> rw [q] at r <;> cases r
    · rcases hf with r | r <;> rw [q] at r <;> cases r
    · rcases hf with r | r <;> rw [q] at r <;> cases r
    · exact q
  refine k_putv (v := .ref (tgN a ci k)) hd hlk hk hcl hcn hnm hs (fun ad => rt_narrow hr) (fun ad => rt_fits hr) (fun ad => ?_) (fun hw ho ha => wfN_wr hw ha (fun c2 q r => ?_) (fun t q => by rw [hs] at q; cases q)) kk
  · unfold fvN tgN
    rcases hf with q | q <;> rw [q] <;> simp only [wr_self]
    · rfl
    · rfl
  · rw [hs] at q
    cases q
    exact vOk_lt ho hb9
theorem k_getR {X : KX} {d mi pc nn : Nat} {lv : List (Option Value)} {t : List Value} {h : Hp} {ix a ci k b : Nat} (hd : decode (mth mi).2.1 pc = .ok (.getfield ix, 3)) (hlk : Jvm.Cond.fieldLink (mth mi).1.cls ix (cnF ci) (ftF ci k).2.1 (ftF ci k).2.2.1 ∈ tbl) (hk : k < fnF ci) (hcl : (ftF ci k).1 = cnF ci) (hf : (fk ci k).1 = 2 ∨ (fk ci k).1 = 3) (hs : sh a = (1, ci)) (hb : tgN a ci k = b) (hne : h a k = 1) (kk : K X d mi (pc + 3) lv (.ref b :: t) h nn) : K X d mi pc lv (.ref a :: t) h nn := by
  obtain ⟨⟨p, l, e, R, s⟩, ⟨m, args, below, meth, c⟩, ⟨D, ct, S0⟩, ⟨n0, nm, ad0⟩, Q, Rt⟩ := X
  intro E hb2 hw o1 o2 ad H locs ls ha hA hP hS hl
  obtain ⟨hx, hcb, hml, hown, hts, hK, hNs, ⟨hr1, hr2, hr3, hr4⟩, ⟨hz1, hz2, hz3, hz4⟩, hret⟩ := id E
  have hc1 := sh_c1 hs
  have han : a < nn := vOk_lt (o1 (.ref a) List.mem_cons_self) (sh_lt hs (by decide))
  subst hb
  have hR : isR ci k := by rcases hf with q | q <;> unfold isR <;> rw [q] <;> exact ⟨by decide, by decide, by decide⟩
  have hlt := hw.1 a ci k han hs hk hR (by rw [hne]; decide)
  have e1 : fvN ad a ci (h a) k = .ref (ad (tgN a ci k)) := by
    unfold fvN tgN
    rcases hf with q | q <;> rw [q, hne]
    · rfl
    · rfl
  exact va_get (D := D) (ci := ci) hx hcb hts (cls_in ci hc1) hown hK hP a (by rw [wsN_at han, cellN_obj hs]) (cls_at ci hc1) k hk (hts _ hlk) (fun x hx => by rw [← hcl]; exact hx) (by rw [fldN_at hk, e1]; rfl) hd (kk E hb2 hw (ok_cons (Or.inl hlt) (ok_tl o1)) o2 ad H locs ls ha hA hP hS hl)
theorem k_iast {X : KX} {d mi pc nn N j : Nat} {lv : List (Option Value)} {t : List Value} {h : Hp} {a : Nat} {i x : Int32} (hd : decode (mth mi).2.1 pc = .ok (.iastore, 1)) (hs : sh a = (0, N)) (hi : i = nI j) (hj : j < N) (hN : N < 1000) (kk : K X d mi (pc + 1) lv t (wr h a j x) nn) : K X d mi pc lv (.int x :: .int i :: .ref a :: t) h nn := by
  obtain ⟨⟨p, l, e, R, s⟩, ⟨m, args, below, meth, c⟩, ⟨D, ct, S0⟩, ⟨n0, nm, ad0⟩, Q, Rt⟩ := X
  intro E hb2 hw o1 o2 ad H locs ls ha hA hP hS hl
  obtain ⟨hx, hcb, hml, hown, hts, hK, hNs, ⟨hr1, hr2, hr3, hr4⟩, ⟨hz1, hz2, hz3, hz4⟩, hret⟩ := id E
  have han : a < nn := vOk_lt (o1 (.ref a) (List.mem_cons_of_mem _ (List.mem_cons_of_mem _ List.mem_cons_self))) (sh_lt hs (by decide))
  subst hi
  refine va_iast (D := D) (f := h a) hx hcb hK hP (wsN_D hA) hS a 0 (by rw [wsN_at han, cellN_arr hs]) rfl (vp_in_nI hj (by omega)) hd (fun H1 locs1 hP1 hD1 hS1 => ?_)
  rw [nI_clamp (by omega), ← wr_row, ← cellN_arr (ad := ad) (ct := ct) hs, wsN_set (h' := wr h a j x) han (fun j hj => wr_c hj)] at hP1
  exact kk E hb2 (wfN_int hw han hs) (ok_tl (ok_tl (ok_tl o1))) o2 ad H1 locs1 ls ha hA hP1 hS1 hl
theorem k_aast {X : KX} {d mi pc nn j : Nat} {lv : List (Option Value)} {t : List Value} {h : Hp} {a b : Nat} {i : Int32} (hd : decode (mth mi).2.1 pc = .ok (.aastore, 1)) (hs : sh a = (2, 0)) (hb : sh b = (1, 3)) (hi : i = nI j) (hj : j < 5) (hbj : re 0 j = b) (kk : K X d mi (pc + 1) lv t (wr h a j 1) nn) : K X d mi pc lv (.ref b :: .int i :: .ref a :: t) h nn := by
  obtain ⟨⟨p, l, e, R, s⟩, ⟨m, args, below, meth, c⟩, ⟨D, ct, S0⟩, ⟨n0, nm, ad0⟩, Q, Rt⟩ := X
  intro E hb2 hw o1 o2 ad H locs ls ha hA hP hS hl
  obtain ⟨hx, hcb, hml, hown, hts, hK, hNs, ⟨hr1, hr2, hr3, hr4⟩, ⟨hz1, hz2, hz3, hz4⟩, hret⟩ := id E
  have han : a < nn := vOk_lt (o1 (.ref a) (List.mem_cons_of_mem _ (List.mem_cons_of_mem _ List.mem_cons_self))) (sh_lt hs (by decide))
  have hbn : b < nn := vOk_lt (o1 (.ref b) List.mem_cons_self) (sh_lt hb (by decide))
  subst hi
  refine va_astq (D := D) (r := (cnF 3, ftF 3, fnF 3)) (ci := 3) (qk := b) (f := refN ad 0 (h a)) (n := 5) hx hcb hK hP (wsN_D hA) hS a 1 (by rw [wsN_at han, cellN_ref hs]; rfl) rfl (by rw [wsN_at hbn, cellN_obj hb]) (cls_at 3 (by decide)) (vp_in_nI hj (by omega)) hd (fun H1 locs1 hP1 hD1 hS1 => ?_)
  have e1 : va_up (refN ad 0 (h a)) (nI j).toNatClampNeg (some (ad b)) = refN ad 0 (wr h a j 1 a) := by
    rw [nI_clamp (by omega)]
    funext q
    unfold va_up refN
    by_cases e : q = j
    · subst e
      rw [if_pos rfl, wr_self, if_neg (by decide), hbj]
    · rw [if_neg e, wr_k e]
  rw [e1] at hP1
  have e2 : (wsN ad ct h nn).set a (ad a, cellN ad ct a (wr h a j 1 a)) = wsN ad ct (wr h a j 1) nn := wsN_set han (fun j hj => wr_c hj)
  rw [cellN_ref hs] at e2
  have hP1 : va_P D classes ((wsN ad ct h nn).set a (ad a, .inl (ct (1 + 0), rl 0, .inr (.inr (.inr (.inr (refN ad 0 (wr h a j 1 a)))))))) H1 := hP1
  rw [e2] at hP1
  exact kk E hb2 (wfN_wr hw han (fun ci q => by rw [hs] at q; cases q) (fun t q => by rw [hs] at q; cases q; rw [hbj]; exact hbn)) (ok_tl (ok_tl (ok_tl o1))) o2 ad H1 locs1 ls ha hA hP1 hS1 hl
theorem k_alen {X : KX} {d mi pc nn : Nat} {lv : List (Option Value)} {t : List Value} {h : Hp} {a : Nat} (hd : decode (mth mi).2.1 pc = .ok (.arraylength, 1)) (hs : sh a = (2, 0)) (kk : K X d mi (pc + 1) lv (.int (nI 5) :: t) h nn) : K X d mi pc lv (.ref a :: t) h nn := by
  obtain ⟨⟨p, l, e, R, s⟩, ⟨m, args, below, meth, c⟩, ⟨D, ct, S0⟩, ⟨n0, nm, ad0⟩, Q, Rt⟩ := X
  intro E hb2 hw o1 o2 ad H locs ls ha hA hP hS hl
  have han : a < nn := vOk_lt (o1 (.ref a) List.mem_cons_self) (sh_lt hs (by decide))
  exact va_alen E.1 E.2.1 E.2.2.2.2.2.1 hP a 1 (by rw [wsN_at han, cellN_ref hs]) rfl (v := nI 5) rfl hd (kk E hb2 hw (ok_cons trivial (ok_tl o1)) o2 ad H locs ls ha hA hP hS hl)
theorem k_obj {X : KX} {d mi pc nn ix : Nat} {lv : List (Option Value)} {t : List Value} {h : Hp} {a : Nat} (hd : decode (mth mi).2.1 pc = .ok (.invokespecial ix, 3)) (hw1 : Jvm.Cond.methodLink (mth mi).1.cls ix objectInit ∈ tbl) (hw2 : Jvm.Cond.instanceMethod objectInit ∈ tbl) (hcat : (t.map fun v => v.category).sum ≤ 8) (hdd : 0 < d) (kk : K X d mi (pc + 3) lv t h nn) : K X d mi pc lv (.ref a :: t) h nn := by
  obtain ⟨⟨p, l, e, R, s⟩, ⟨m, args, below, meth, c⟩, ⟨D, ct, S0⟩, ⟨n0, nm, ad0⟩, Q, Rt⟩ := X
  intro E hb2 hw o1 o2 ad H locs ls ha hA hP hS hl
  obtain ⟨hx, hcb, hml, hown, hts, hK, hNs, ⟨hr1, hr2, hr3, hr4⟩, ⟨hz1, hz2, hz3, hz4⟩, hret⟩ := id E
  have hc2 : ((t.map (cz ad)).map fun v => v.category).sum ≤ 8 := by
    rw [List.map_map]
    have : (fun v : Value => v.category) ∘ cz ad = fun v => v.category := funext fun v => cz_cat ad v
    rw [this]
    exact hcat
  refine W.objInit (a := ad a) (rest := t.map (cz ad)) hx hcb hown (hts _ hw1) (hts _ hw2) (hts _ (show Jvm.Cond.code objectInit ⟨#[0xb1]⟩ 1 none ∈ tbl from mc_1)) rfl (by rw [hml]; exact hl.1) rfl hd (by omega) ?_ ?_
  · show 2 * 0 + _ + 12 ≤ R.locals
    omega
  · exact kk E hb2 hw (ok_tl o1) o2 ad H locs ls ha hA hP hS hl
