/-! part 99pa: K: contracts of constructors -/
def rmC (d n n1 : Nat) : Room := { frames := d, cells := n1 - n, slots := szN n1 - szN n, locals := 64 * d }
def PcC (D : va_G) (ct : Nat → ClassId) (S0 : Nat) (ad : Nat → Nat) (vs : List Value) (h : Hp) (n : Nat) : Array Value → State → Prop := va_Pc (vs.map (cz ad)) (fun U => S0 ≤ U.heap.size ∧ va_P D classes (wsN ad ct h n) U.heap ∧ va_K D classes (tysC ct) U ∧ NsA U)
def QcC (D : va_G) (ct : Nat → ClassId) (S0 : Nat) (ad : Nat → Nat) (n : Nat) (h1 : Hp) (n1 : Nat) : Array Value → State → Outcome → State → Prop := va_Qv (fun ad' : Nat → Nat => (∀ c, c < n ∨ 900 ≤ c → ad' c = ad c) ∧ AdN S0 ad' n1 ∧ wfN h1 n1) (fun ad' t => va_P D classes (wsN ad' ct h1 n1) t.heap) (AK S0)
/-- called with vs at the first n cells, the constructor mi makes the world's cells up to n1 -/
def CN (d mi : Nat) (vs : List Value) (h : Hp) (n : Nat) (h1 : Hp) (n1 : Nat) : Prop := n ≤ n1 ∧ n1 ≤ NW ∧ ∀ (l : Launch) (D : va_G) (ct : Nat → ClassId) (S0 : Nat) (ad : Nat → Nat), AdN S0 ad n → wfN h n → (∀ v ∈ vs, vOk n v) → Met l (mth mi).1 (wdW mi) (rmC d n n1) (PcC D ct S0 ad vs h n) (QcC D ct S0 ad n h1 n1) (n1 - n) (szN n1 - szN n) (AK S0)
theorem PcC_blind (D : va_G) (ct : Nat → ClassId) (S0 : Nat) (ad : Nat → Nat) (vs : List Value) (h : Hp) (n : Nat) : FrameBlind (PcC D ct S0 ad vs h n) := by
  intro a U g mk q
  obtain ⟨q1, q2, q3, q4, q5⟩ := q
  exact ⟨q1, q2, q3, va_K.moved (u := U) (U := U.calling g mk a) (Vm.Alike.refl U.vm) q4, NsA.same q5 rfl⟩
theorem ent_ok {n : Nat} : ∀ {vs : List Value} {N i : Nat} {v : Value}, (∀ v ∈ vs, vOk n v) → lg (ent vs N) i = some v → vOk n v
  | [], N, i, v, _, h => by
    rw [show ent [] N = List.replicate N none from rfl, lg_rep] at h
    cases h
  | w :: t, N, i, v, o, h => by
    unfold ent at h
    by_cases e : w.category = 2
    · rw [if_pos e] at h
      match i, h with
      | 0, h => cases h; exact o _ List.mem_cons_self
      | 1, h => cases h
      | i + 2, h => exact ent_ok (vs := t) (ok_tl o) h
    · rw [if_neg e] at h
      match i, h with
      | 0, h => cases h; exact o _ List.mem_cons_self
      | i + 1, h => exact ent_ok (vs := t) (ok_tl o) h
set_option maxHeartbeats 1000000 in
theorem CN.of {d mi : Nat} {vs : List Value} {h h1 : Hp} {n n1 : Nat} (hm : mOk mi = true) (hret : (mth mi).2.2.2 = none) (hn : (lg_sl vs).length ≤ (mth mi).2.2.1) (hn1 : n ≤ n1) (hn2 : n1 ≤ NW) (body : ∀ X : KX, nmK X = n1 → RtK X h1 n1 → K X d mi 0 (ent vs (mth mi).2.2.1) [] h n) : CN d mi vs h n h1 n1 := by
  refine ⟨hn1, hn2, fun l D ct S0 ad hA hw ho => ?_⟩
  have hm2 := hm
  unfold mOk at hm2
  simp only [Bool.and_eq_true, decide_eq_true_eq] at hm2
  refine Met.ofW (cc := (mth mi).2.1) (maxL := (mth mi).2.2.1) (ret := (mth mi).2.2.2) hm2.2 rfl ?_
  intro p e s m args below meth c s₁ B hml hv
  obtain ⟨rfl, hS0, hP, hK, hNs⟩ := hv
  have hx := B.exec
  have hb := B.bytes
  have hr := B.returns
  have hts := atoms_spec (ws := wdW mi) B.pre
  have hown : s.vm.findClass (mth mi).1.cls = some m.cls := findClass_of_methodNamed B.named
  have hlocks := B.notSynchronized
  have hin : meth.name = (mth mi).1.name := (name_of_methodNamed B.named B.method).1
  have hl := lv_entry (vs.map (cz ad)) (n := (mth mi).2.2.1) (by rw [lg_sl_cz]; exact hn)
  rw [lg_entry_eq]
  generalize (lg_sl (vs.map (cz ad)) ++ List.replicate ((mth mi).2.2.1 - (lg_sl (vs.map (cz ad))).length) Slot.unset).toArray = ls at hl ⊢
  have hlv : lvR ad ls (mth mi).2.2.1 (ent vs (mth mi).2.2.1) := ⟨hl.1, hl.2.1, fun i v hi => by
    have := hl.2.2 _ (ent_lg ad vs (mth mi).2.2.1 0 i v hi)
    rwa [Nat.zero_add] at this⟩
  have h9 := body ((p, l, e, (headSpec (wdW mi) (rmC d n n1)).room, s), (m, (vs.map (cz ad)).toArray, below, meth, c), (D, ct, S0), (n, n1, ad), (MQ below (QcC D ct S0 ad n h1 n1) (vs.map (cz ad)).toArray s (n1 - n) (szN n1 - szN n) (AK S0)), (fun h' n' => h' = h1 ∧ n' = n1)) rfl ⟨rfl, rfl⟩ ⟨hx, hb, hml, hown, fun w hw => hts w (List.mem_cons_of_mem _ hw), hK, hNs, ⟨Nat.le_refl _, Nat.le_refl _, Nat.le_refl _, Nat.le_refl _⟩, ⟨hS0, hn1, hn2, fun q => hin.trans q⟩, ?_⟩ ⟨Nat.le_refl _, hn1⟩ hw (fun v hv => by cases hv) (fun i v hi => ent_ok ho hi) ad s.heap [] ls (fun c _ => rfl) hA hP va_S.rf hlv
  · rw [Nat.sub_self, Nat.sub_self] at h9
    exact h9
  · rintro h' n' ⟨rfl, rfl⟩ hw' ad' H locs pc ls' ha' hA' hP' hS' hd'
    exact W.vret hx hb (by rw [hr, hret]) (fun t ht _ => ⟨⟨ad', rfl, ⟨ha', hA', hw'⟩, by show va_P D classes _ t.heap; rw [ht]; exact hP'⟩, hS'.F ht⟩) hS'.2.2 hd'
theorem k_after {p : Program} {l : Launch} {e : Env} {R : Room} {s : State} {m : MethodId} {args : Array Value} {below : List Frame} {meth : Method} {c : Code} {D : va_G} {ct : Nat → ClassId} {S0 n0 nm : Nat} {ad0 : Nat → Nat} {Q : State → Prop} {Rt : Hp → Nat → Prop} {d mi pc nn n1 : Nat} {lv : List (Option Value)} {t : List Value} {h1 : Hp} {st0 : List Value} {a : Array Value} {ad : Nat → Nat} {H : Heap} {locs : List Loc} {ls : Array Slot}
    (hr : va_Run p l e R s m args below meth c H locs (nn - n0) (szN nn - szN n0) (n1 - nn) (szN n1 - szN nn) (F0 m pc ls st0) (t.map (cz ad)) (QcC D ct S0 ad nn h1 n1 a) (AK S0))
    (E : KE ((p, l, e, R, s), (m, args, below, meth, c), (D, ct, S0), (n0, nm, ad0), (Q, Rt)) d mi) (hb : n0 ≤ nn ∧ nn ≤ nm) (hn1 : nn ≤ n1) (hm1 : n1 ≤ nm) (o1 : ∀ v ∈ t, vOk nn v) (o2 : ∀ i v, lg lv i = some v → vOk nn v) (ha : ∀ c, c < n0 ∨ 900 ≤ c → ad c = ad0 c) (hS : va_S (AK S0) s.heap H locs) (hl : lvR ad ls (mth mi).2.2.1 lv)
    (k : K ((p, l, e, R, s), (m, args, below, meth, c), (D, ct, S0), (n0, nm, ad0), (Q, Rt)) d mi (pc + 3) lv t h1 n1) : W p l e R s m args below meth c H locs (nn - n0) (szN nn - szN n0) Q (F0 m pc ls st0) := by
  refine va_callv hr hS (fun q _ h => h) (fun q h => h) (fun ad' t2 H1 locs1 ht hal hpost hB hsz hk hS1 => ?_)
  obtain ⟨ha', hA', hw'⟩ := hpost
  have hB : va_P D classes (wsN ad' ct h1 n1) t2.heap := hB
  rw [ht] at hB
  have h9 := k E ⟨by omega, hm1⟩ hw' (fun v hv => vOk_le hn1 (o1 v hv)) (fun i v hi => vOk_le hn1 (o2 i v hi)) ad' H1 locs1 ls (fun c hc => by rw [ha' c (by omega)]; exact ha c hc) hA' hB hS1 (lvR_P hl ha' o2)
  rw [st_P ha' o1] at h9
  have m1 := szN_mono hb.1
  have m2 := szN_mono hn1
  rw [show nn - n0 + (n1 - nn) = n1 - n0 by omega, show szN nn - szN n0 + (szN n1 - szN nn) = szN n1 - szN n0 by omega]
  exact h9
theorem k_callN {X : KX} {d mi pc nn n1 ix mj d' b : Nat} {lv : List (Option Value)} {As t : List Value} {h h1 : Hp} (hd : decode (mth mi).2.1 pc = .ok (.invokespecial ix, 3)) (hx9 : ((mth mi).1.cls, ix, mj) ∈ nestL) (hm : mOk mj = true) (hmi : mIn mj) (hini : Jvm.Cond.initialized (mth mj).1.cls ∈ tbl) (hinst : Jvm.Cond.instanceMethod (mth mj).1 ∈ tbl) (hnm : (mth mj).1.name = "<init>") (hret : (mth mj).2.2.2 = none) (hlen : As.length = (mw mj).2) (hcat : (t.map fun v => v.category).sum ≤ 8) (hdd : d' < d) (hm1 : n1 ≤ nmK X) (hC : CN d' mj (.ref b :: As) h nn h1 n1) (k : K X d mi (pc + 3) lv t h1 n1) : K X d mi pc lv (As.reverse ++ .ref b :: t) h nn := by
  obtain ⟨⟨p, l, e, R, s⟩, ⟨m, args, below, meth, c⟩, ⟨D, ct, S0⟩, ⟨n0, nm, ad0⟩, Q, Rt⟩ := X
  intro E hb hw o1 o2 ad H locs ls ha hA hP hS hl
  obtain ⟨hx, hcb, hml, hown, hts, hK, hNs, ⟨hr1, hr2, hr3, hr4⟩, ⟨hz1, hz2, hz3, hz4⟩, hrt⟩ := id E
  have hm1 : n1 ≤ nm := hm1
  have hm2 := hm
  unfold mOk at hm2
  simp only [Bool.and_eq_true, decide_eq_true_eq] at hm2
  obtain ⟨⟨⟨⟨k3, k4⟩, k5⟩, k6⟩, k7⟩ := hm2
  have m1 := szN_mono hb.1
  have m2 := szN_mono hC.1
  have m3 := szN_mono hm1
  have hn1 := hC.1
  have cw : va_CN R s args (mth mi).1.cls ix (mth mj).1 "PlayedTruth" (mth mj).2.1 (mth mj).2.2.1 none (wdW mj) (rmC d' nn n1) (n1 - nn) (szN n1 - szN nn) (mw mj).2 ∧ (mth mj).1.name = "<init>" ∧ (Jvm.Cond.instanceMethod (mth mj).1).before args s = true := by
    refine ⟨va_cnB (ws' := tbl) (mw mj).2 hts (good_of (wdW_in hmi)) (by unfold wdW; rw [hret]) rfl rfl (hNs.1 _ hx9) (hts _ hini) ⟨k3, k4, k5⟩ ⟨?_, ?_⟩, hnm, hts _ hinst⟩
    · show d' + 1 ≤ R.frames
      omega
    · show 8 + ((mth mj).2.2.1 + 11) + 64 * d' ≤ R.locals
      omega
  have ovs : ∀ v ∈ Value.ref b :: As, vOk nn v := fun v hv => by
    rcases List.mem_cons.mp hv with rfl | q
    · exact o1 _ (List.mem_append_right _ List.mem_cons_self)
    · exact o1 _ (List.mem_append_left _ (List.mem_reverse.mpr q))
  have hp : PreS s H (PcC D ct S0 ad (.ref b :: As) h nn) (.ref (ad b) :: As.map (cz ad)) := ⟨PcC_blind D ct S0 ad _ h nn, fun U hU hW => ⟨rfl, by rw [hU]; exact Nat.le_trans hz1 hS.1, by rw [hU]; exact hP, va_K.moved hW.alike hK, hNs.go hW⟩⟩
  refine k_after (st0 := (As.reverse ++ .ref b :: t).map (cz ad)) (va_runIN (As := As.map (cz ad)) (rest := t.map (cz ad)) ⟨hx, hcb, hml, hown, hts⟩ (hC.2.2 l D ct S0 ad hA hw ovs) cw hp rfl (by rw [List.length_map]; exact hlen) hl.1 ?_ (lv_room ?_) hd ⟨by omega, by omega⟩) E hb hn1 hm1 (fun v hv => o1 v (List.mem_append_right _ (List.mem_cons_of_mem _ hv))) o2 ha hS hl k
  · show List.map (cz ad) (As.reverse ++ .ref b :: t) = _
    simp [List.map_append, List.map_reverse, cz]
  · rw [List.map_map]
    have : (fun v : Value => v.category) ∘ cz ad = fun v => v.category := funext fun v => cz_cat ad v
    rw [this]
    exact hcat
theorem k_callI {X : KX} {d mi pc nn n1 ix mj d' b : Nat} {lv : List (Option Value)} {As t : List Value} {h h1 : Hp} (hd : decode (mth mi).2.1 pc = .ok (.invokespecial ix, 3)) (hx9 : Jvm.Cond.methodLink (mth mi).1.cls ix (mth mj).1 ∈ tbl) (hm : mOk mj = true) (hmi : mIn mj) (hini : Jvm.Cond.initialized (mth mj).1.cls ∈ tbl) (hinst : Jvm.Cond.instanceMethod (mth mj).1 ∈ tbl) (hnm : (mth mj).1.name = "<init>") (hret : (mth mj).2.2.2 = none) (hlen : As.length = (mw mj).2) (hcat : (t.map fun v => v.category).sum ≤ 8) (hdd : d' < d) (hm1 : n1 ≤ nmK X) (hC : CN d' mj (.ref b :: As) h nn h1 n1) (k : K X d mi (pc + 3) lv t h1 n1) : K X d mi pc lv (As.reverse ++ .ref b :: t) h nn := by
  obtain ⟨⟨p, l, e, R, s⟩, ⟨m, args, below, meth, c⟩, ⟨D, ct, S0⟩, ⟨n0, nm, ad0⟩, Q, Rt⟩ := X
  intro E hb hw o1 o2 ad H locs ls ha hA hP hS hl
  obtain ⟨hx, hcb, hml, hown, hts, hK, hNs, ⟨hr1, hr2, hr3, hr4⟩, ⟨hz1, hz2, hz3, hz4⟩, hrt⟩ := id E
  have hm1 : n1 ≤ nm := hm1
  have hm2 := hm
  unfold mOk at hm2
  simp only [Bool.and_eq_true, decide_eq_true_eq] at hm2
  obtain ⟨⟨⟨⟨k3, k4⟩, k5⟩, k6⟩, k7⟩ := hm2
  have m1 := szN_mono hb.1
  have m2 := szN_mono hC.1
  have m3 := szN_mono hm1
  have hn1 := hC.1
  have cw : CallB R s args (mth mi).1.cls ix (mth mj).1 (mth mj).2.1 (mth mj).2.2.1 none (wdW mj) (rmC d' nn n1) (n1 - nn) (szN n1 - szN nn) (mw mj).2 ∧ (mth mj).1.name = "<init>" ∧ (Jvm.Cond.instanceMethod (mth mj).1).before args s = true := by
    refine cwI (ws' := tbl) (mw mj).2 hts (good_of (wdW_in hmi)) (by unfold wdW; rw [hret]) rfl rfl (hts _ hini) (hts _ hx9) (hts _ hinst) hnm ⟨k3, k4, k5⟩ ⟨?_, ?_⟩
    · show d' + 1 ≤ R.frames
      omega
    · show 8 + ((mth mj).2.2.1 + 11) + 64 * d' ≤ R.locals
      omega
  have ovs : ∀ v ∈ Value.ref b :: As, vOk nn v := fun v hv => by
    rcases List.mem_cons.mp hv with rfl | q
    · exact o1 _ (List.mem_append_right _ List.mem_cons_self)
    · exact o1 _ (List.mem_append_left _ (List.mem_reverse.mpr q))
  have hp : PreS s H (PcC D ct S0 ad (.ref b :: As) h nn) (.ref (ad b) :: As.map (cz ad)) := ⟨PcC_blind D ct S0 ad _ h nn, fun U hU hW => ⟨rfl, by rw [hU]; exact Nat.le_trans hz1 hS.1, by rw [hU]; exact hP, va_K.moved hW.alike hK, hNs.go hW⟩⟩
  refine k_after (st0 := (As.reverse ++ .ref b :: t).map (cz ad)) (va_runI (As := As.map (cz ad)) (rest := t.map (cz ad)) ⟨hx, hcb, hml, hown, hts⟩ (hC.2.2 l D ct S0 ad hA hw ovs) cw hp rfl (by rw [List.length_map]; exact hlen) hl.1 ?_ (lv_room ?_) hd ⟨by omega, by omega⟩) E hb hn1 hm1 (fun v hv => o1 v (List.mem_append_right _ (List.mem_cons_of_mem _ hv))) o2 ha hS hl k
  · show List.map (cz ad) (As.reverse ++ .ref b :: t) = _
    simp [List.map_append, List.map_reverse, cz]
  · rw [List.map_map]
    have : (fun v : Value => v.category) ∘ cz ad = fun v => v.category := funext fun v => cz_cat ad v
    rw [this]
    exact hcat
