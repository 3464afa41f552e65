/-! part 40a: the words' text: String.length, String.charAt; isSpelt, wordOf -/
theorem g_i2c {X : GX} {d mi pc : Nat} {lv : List (Option Value)} {t : List Value} {h : Hp} {x : Int32} (hd : decode (mth mi).2.1 pc = .ok (.i2c, 1)) (k : G X d mi (pc + 1) lv (.int ((x.toUInt32 % 65536).toInt32) :: t) (h)) : G X d mi pc lv (.int x :: t) h := by
  obtain ⟨⟨p, l, e, R, s⟩, ⟨m, args, below, meth, c⟩, Y, ⟨ce, sl, Q, Rt⟩, o⟩ := X
  intro E H locs ls hP hS hl
  exact lv_i2c E.1 E.2.1 hd rfl (k E H locs ls hP hS hl)
theorem g_ldcS {X : GX} {d mi pc : Nat} {lv : List (Option Value)} {t : List Value} {h : Hp} (hd : decode (mth mi).2.1 pc = .ok (.ldc 75, 2)) (hc : (mth mi).1.cls = "PlayedTruth$RuleReader") (kk : G X d mi (pc + 2) lv (.ref 998 :: t) h) : G X d mi pc lv t h := by
  obtain ⟨⟨p, l, e, R, s⟩, ⟨m, args, below, meth, c⟩, Y, ⟨ce, sl, Q, Rt⟩, o⟩ := X
  intro E H locs ls hP hS hl
  have hown := E.2.2.2.1
  rw [hc] at hown
  exact va_ldcS E.1 E.2.1 hown E.2.2.2.2.2.2.2.1.2.2.1 hd (kk E H locs ls hP hS hl)
theorem g_getsC {X : GX} {d mi pc : Nat} {lv : List (Option Value)} {t : List Value} {h : Hp} {n : Nat} (hd : decode (mth mi).2.1 pc = .ok (.getstatic n, 3)) (hw : Jvm.Cond.fieldLink (mth mi).1.cls n "java/lang/String" "COMPACT_STRINGS" "Z" ∈ tbl) (kk : G X d mi (pc + 3) lv (.int 1 :: t) h) : G X d mi pc lv t h := by
  obtain ⟨⟨p, l, e, R, s⟩, ⟨m, args, below, meth, c⟩, Y, ⟨ce, sl, Q, Rt⟩, o⟩ := X
  intro E H locs ls hP hS hl
  exact va_gets E.1 E.2.1 E.2.2.2.2.2.2.2.1.2.2.2.2.1 hS E.2.2.2.1 (E.2.2.2.2.1 _ hw) (fun x hx => hx) hd (kk E H locs ls hP hS hl)
theorem g_sval {X : GX} {d mi pc : Nat} {lv : List (Option Value)} {t : List Value} {h : Hp} {n : Nat} (hd : decode (mth mi).2.1 pc = .ok (.getfield n, 3)) (hw : Jvm.Cond.fieldLink (mth mi).1.cls n "java/lang/String" "value" "[B" ∈ tbl) (kk : G X d mi (pc + 3) lv (.ref 996 :: t) h) : G X d mi pc lv (.ref 998 :: t) h := by
  obtain ⟨⟨p, l, e, R, s⟩, ⟨m, args, below, meth, c⟩, Y, ⟨ce, sl, Q, Rt⟩, o⟩ := X
  intro E H locs ls hP hS hl
  exact vk_getf E.1 E.2.1 (E.2.2.2.2.2.2.2.1.2.2.2.1.1 0 (by decide)).2.2.1 hS E.2.2.2.1 (E.2.2.2.2.1 _ hw) (fun x hx => hx) hd (kk E H locs ls hP hS hl)
theorem g_scod {X : GX} {d mi pc : Nat} {lv : List (Option Value)} {t : List Value} {h : Hp} {n : Nat} (hd : decode (mth mi).2.1 pc = .ok (.getfield n, 3)) (hw : Jvm.Cond.fieldLink (mth mi).1.cls n "java/lang/String" "coder" "B" ∈ tbl) (kk : G X d mi (pc + 3) lv (.int 0 :: t) h) : G X d mi pc lv (.ref 998 :: t) h := by
  obtain ⟨⟨p, l, e, R, s⟩, ⟨m, args, below, meth, c⟩, Y, ⟨ce, sl, Q, Rt⟩, o⟩ := X
  intro E H locs ls hP hS hl
  exact vk_getf E.1 E.2.1 (E.2.2.2.2.2.2.2.1.2.2.2.1.1 0 (by decide)).2.1 hS E.2.2.2.1 (E.2.2.2.2.1 _ hw) (fun x hx => hx) hd (kk E H locs ls hP hS hl)
theorem g_blen {X : GX} {d mi pc : Nat} {lv : List (Option Value)} {t : List Value} {h : Hp} (hd : decode (mth mi).2.1 pc = .ok (.arraylength, 1)) (kk : G X d mi (pc + 1) lv (.int (nI wordsB.length) :: t) h) : G X d mi pc lv (.ref 996 :: t) h := by
  obtain ⟨⟨p, l, e, R, s⟩, ⟨m, args, below, meth, c⟩, Y, ⟨ce, sl, Q, Rt⟩, o⟩ := X
  intro E H locs ls hP hS hl
  exact va_tlen E.1 E.2.1 (E.2.2.2.2.2.2.2.1.2.2.2.1.1 0 (by decide)).2.2.2 hS rfl hd (kk E H locs ls hP hS hl)
theorem g_bld {X : GX} {d mi pc : Nat} {lv : List (Option Value)} {t : List Value} {h : Hp} {i : Int32} (hd : decode (mth mi).2.1 pc = .ok (.baload, 1)) (hin : vp_in i wordsB.length) (kk : G X d mi (pc + 1) lv (.int (wordsB.getD i.toNatClampNeg 0) :: t) h) : G X d mi pc lv (.int i :: .ref 996 :: t) h := by
  obtain ⟨⟨p, l, e, R, s⟩, ⟨m, args, below, meth, c⟩, Y, ⟨ce, sl, Q, Rt⟩, o⟩ := X
  intro E H locs ls hP hS hl
  exact va_tb E.1 E.2.1 (E.2.2.2.2.2.2.2.1.2.2.2.1.1 0 (by decide)).2.2.2 hS hin rfl hd (kk E H locs ls hP hS hl)
theorem g_callT {X : GX} {d mi pc : Nat} {lv : List (Option Value)} {h : Hp} {n mj d' : Nat} {As t : List Value} {Q' : Option Value → Hp → Prop} (hd : decode (mth mi).2.1 pc = .ok (.invokevirtual n, 3)) (hw : Jvm.Cond.methodLink (mth mi).1.cls n (mth mj).1 ∈ tbl) (hm : mOk mj = true) (hmi : mIn mj) (hmw : mWd mj) (hkd : (mw mj).1 = 1) (hci : (mth mj).1.cls = "java/lang/String") (hlen : As.length = (mw mj).2) (hcat : (t.map fun v => v.category).sum ≤ 8) (hdd : d' < d) (hC : C d' mj (.ref 998 :: As) h Q') (kk : ∀ r h', Q' r h' → G X d mi (pc + 3) lv (r.toList ++ t) h') : G X d mi pc lv (As.reverse ++ .ref 998 :: t) h := by
  obtain ⟨⟨p, l, e, R, s⟩, ⟨m, args, below, meth, c⟩, Y, ⟨ce, sl, Q, Rt⟩, o⟩ := X
  intro E H locs ls hP hS hl
  obtain ⟨hx, hcb, hml, hown, hts, hK, hAd, hEx, ⟨hr1, hr2, hr3, hr4⟩, -⟩ := id E
  have hin := wdW_in hmi
  have hm2 := hm
  unfold mOk at hm2
  simp only [Bool.and_eq_true, decide_eq_true_eq] at hm2
  obtain ⟨⟨⟨⟨k3, k4⟩, k5⟩, k6⟩, k7⟩ := hm2
  unfold mWd at hmw
  rw [hkd] at hmw
  obtain ⟨k2, k8, k9⟩ := hmw
  have cw : CallW R s args (mth mi).1.cls (mth mj).1.cls n (mth mj).1 (mth mj).2.1 (mth mj).2.2.1 (mth mj).2.2.2 (wdW mj) (rmD d') 0 0 (mw mj).2 := by
    refine cwV (mw mj).2 hts (good_of (fun w hw' => ?_)) rfl rfl rfl ⟨rfl, k3, k4, k5⟩ ⟨?_, ?_⟩
    · unfold wsV at hw'
      rcases List.mem_append.mp hw' with q | q
      · simp only [List.mem_cons, List.not_mem_nil, or_false] at q
        rcases q with rfl | rfl | rfl | rfl
        · exact hw
        · exact k8
        · exact k9
        · exact k2
      · exact hin w q
    · show d' + 1 ≤ R.frames
      omega
    · show 8 + ((mth mj).2.2.1 + 11) + 64 * d' ≤ R.locals
      omega
  have hp : PreV s H (mth mj).1.cls (Y.1 998) (PcW Y (.ref 998 :: As) h) (As.map (cz Y.1)) := by
    refine ⟨PcW_blind Y _ h, ?_, fun U hU hW => ⟨rfl, by rw [hU]; exact hP, va_K.moved hW.alike hK, by rw [hU]; exact hEx.go hW hS.2.1⟩⟩
    rw [hci]
    exact vk_recv (i := 0) hEx.2.2.2.1 (by decide) hS
  refine g_after (va_runV (As := As.map (cz Y.1)) (rest := t.map (cz Y.1)) ⟨hx, hcb, hml, hown, hts⟩ (hC l Y hAd) cw hp rfl (by rw [List.length_map]; exact hlen) hl.1 ?_ (lv_room ?_) hd ⟨hr3, hr4⟩) hS (fun r h' q H1 locs1 hP1 hS1 => ?_)
  · show List.map (cz Y.1) (As.reverse ++ .ref 998 :: t) = _
    simp [List.map_append, List.map_reverse, cz]
  · rw [List.map_map]
    have : (fun v : Value => v.category) ∘ cz Y.1 = fun v => v.category := funext fun v => cz_cat Y.1 v
    rw [this]
    exact hcat
  · have := kk r h' q E H1 locs1 ls hP1 hS1 hl
    rw [List.map_append] at this
    have e2 : (Option.map (cz Y.1) r).toList = List.map (cz Y.1) r.toList := by cases r <;> rfl
    rw [e2]
    exact this
set_option maxHeartbeats 1000000 in
/-- a contract out of a walk, of a method that answers a byte, a char -/
theorem C.ofZ {d mi : Nat} {vs : List Value} {h : Hp} {Q : Int32 → Hp → Prop} {ty : FieldType} (hm : mOk mi = true) (ht : (mth mi).2.2.2 = some ty) (hn : (lg_sl vs).length ≤ (mth mi).2.2.1) (body : ∀ X : GX, (∀ x h' pc lv, Q x h' → narrow ty (.int x) = .int x → decode (mth mi).2.1 pc = .ok (.ireturn, 1) → G X d mi pc lv [.int x] h') → G X d mi 0 (ent vs (mth mi).2.2.1) [] h) : CI d mi vs h Q := by
  intro l Y hAd
  have hm2 := hm
  unfold mOk at hm2
  simp only [Bool.and_eq_true, decide_eq_true_eq] at hm2
  refine Met.ofW (cc := (mth mi).2.1) (maxL := (mth mi).2.2.1) (ret := (mth mi).2.2.2) hm2.2 rfl ?_
  intro p e s m args below meth c s₁ B hml hv
  obtain ⟨rfl, hP, hK, hEx⟩ := hv
  have hx := B.exec
  have hb := B.bytes
  have hr := B.returns
  have hts := atoms_spec (ws := wdW mi) B.pre
  have hown : s.vm.findClass (mth mi).1.cls = some m.cls := findClass_of_methodNamed B.named
  have hlocks := B.notSynchronized
  have hl := lv_entry (vs.map (cz Y.1)) (n := (mth mi).2.2.1) (by rw [lg_sl_cz]; exact hn)
  rw [lg_entry_eq]
  generalize (lg_sl (vs.map (cz Y.1)) ++ List.replicate ((mth mi).2.2.1 - (lg_sl (vs.map (cz Y.1))).length) Slot.unset).toArray = ls at hl ⊢
  have hlv : lvR Y.1 ls (mth mi).2.2.1 (ent vs (mth mi).2.2.1) := ⟨hl.1, hl.2.1, fun i v hi => by
    have := hl.2.2 _ (ent_lg Y.1 vs (mth mi).2.2.1 0 i v hi)
    rwa [Nat.zero_add] at this⟩
  refine body ((p, l, e, (headSpec (wdW mi) (rmD d)).room, s), (m, (vs.map (cz Y.1)).toArray, below, meth, c), Y, (0, 0, MQ below (QcW Y (fun r h' => ∃ x : Int32, r = some (.int x) ∧ Q x h')) (vs.map (cz Y.1)).toArray s 0 0 (AW Y), fun _ _ => False), none) ?_ ⟨hx, hb, hml, hown, fun w hw => hts w (List.mem_cons_of_mem _ hw), hK, hAd, hEx, ⟨Nat.le_refl _, Nat.le_refl _, Nat.le_refl _, Nat.le_refl _⟩, fun _ _ q => q.elim, fun _ _ q => by cases q⟩ s.heap [] ls hP va_S.rf hlv
  intro x h' pc lv hq hnr hd' E H locs ls' hP' hS' hl'
  have hQ : ∀ t : State, t.heap = H → QcW Y (fun r h' => ∃ x : Int32, r = some (.int x) ∧ Q x h') (vs.map (cz Y.1)).toArray s (.returned (some (.int x))) t := fun t ht => ⟨⟨some (.int x), h', ⟨x, rfl, hq⟩, rfl, by rw [ht]; exact hP'⟩, hS'.F ht⟩
  exact W.zret (ty := ty) hx hb (by rw [hr, ht]) hnr (fun t h1 _ => hQ t h1) hS'.2.2 hd'
set_option maxHeartbeats 1000000 in
/-- Preconditions.checkIndex, whatever its third argument -/
theorem met_58 {l : Launch} {Y : GY} (hAd : AdI Y) {i n : Int32} {v : Value} {h : Hp} (hv : v = .null ∨ ∃ a, v = .ref a) (h0 : ¬ i < 0) (h1 : i < n) : Met l (mth 58).1 (wdW 58) (rmD 0) (va_Pc [.int i, .int n, v] (fun U => va_P Y.2.1 classes (wsW Y h) U.heap ∧ va_K Y.2.1 classes (tysW Y) U ∧ ExA Y U U.heap)) (QcW Y (fun r g => r = some (.int i) ∧ g = h)) 0 0 (AW Y) := by
  have hm2 := mo_58
  unfold mOk at hm2
  simp only [Bool.and_eq_true, decide_eq_true_eq] at hm2
  refine Met.ofW (cc := (mth 58).2.1) (maxL := (mth 58).2.2.1) (ret := (mth 58).2.2.2) hm2.2 rfl ?_
  intro p e s m args below meth c s₁ B hml hva
  obtain ⟨rfl, hP, hK, hEx⟩ := hva
  have hx := B.exec
  have hb := B.bytes
  have hr := B.returns
  have hts := atoms_spec (ws := wdW 58) B.pre
  have hown : s.vm.findClass (mth 58).1.cls = some m.cls := findClass_of_methodNamed B.named
  have hlocks := B.notSynchronized
  have hn3 : (mth 58).2.2.1 = 3 := rfl
  have hl := lv_entry ([.int i, .int n, v]) (n := (mth 58).2.2.1) (by rcases hv with rfl | ⟨a, rfl⟩ <;> exact Nat.le_of_ble_eq_true rfl)
  rw [lg_entry_eq]
  generalize (lg_sl ([.int i, .int n, v]) ++ List.replicate ((mth 58).2.2.1 - (lg_sl ([.int i, .int n, v])).length) Slot.unset).toArray = ls at hl ⊢
  have hl' : lv_has ls (mth 58).2.2.1 [(0, .int i), (1, .int n), (2, v)] := by rcases hv with rfl | ⟨a, rfl⟩ <;> exact hl
  have hlv : lvR Y.1 ls (mth 58).2.2.1 [some (.int i), some (.int n), none] := ⟨hl'.1, hl'.2.1, fun j w hj => by
    match j, hj with
    | 0, hj => cases hj; exact hl'.2.2 (0, .int i) (by simp)
    | 1, hj => cases hj; exact hl'.2.2 (1, .int n) (by simp)
    | 2, hj => cases hj
    | j + 3, hj => cases hj⟩
  have d0 : decode (mth 58).2.1 0 = .ok (.iload_n 0, 1) := by decide +kernel
  have d1 : decode (mth 58).2.1 1 = .ok (.ifCond .lt 8, 3) := by decide +kernel
  have d4 : decode (mth 58).2.1 4 = .ok (.iload_n 0, 1) := by decide +kernel
  have d5 : decode (mth 58).2.1 5 = .ok (.iload_n 1, 1) := by decide +kernel
  have d6 : decode (mth 58).2.1 6 = .ok (.if_icmp .lt 10, 3) := by decide +kernel
  have d16 : decode (mth 58).2.1 16 = .ok (.iload_n 0, 1) := by decide +kernel
  have d17 : decode (mth 58).2.1 17 = .ok (.ireturn, 1) := by decide +kernel
  have body : ∀ X : GX, RtX X (some (.int i)) h → G X 0 58 0 [some (.int i), some (.int n), none] [] h := fun X hq => by
    refine g_iload_n d0 rfl rfl ?_
    refine g_if_lt (tgt := 9) d1 (by decide) (fun q => absurd q h0) (fun _ => ?_)
    refine g_iload_n d4 rfl rfl ?_
    refine g_iload_n d5 rfl rfl ?_
    refine g_icmp_lt (tgt := 16) d6 (by decide) (fun _ => ?_) (fun q => absurd h1 q)
    refine g_iload_n d16 rfl rfl ?_
    exact g_reti d17 rfl hq
  refine body ((p, l, e, (headSpec (wdW 58) (rmD 0)).room, s), (m, ([.int i, .int n, v] : List Value).toArray, below, meth, c), Y, (0, 0, MQ below (QcW Y (fun r g => r = some (.int i) ∧ g = h)) ([.int i, .int n, v] : List Value).toArray s 0 0 (AW Y), fun r g => r = some (.int i) ∧ g = h), none) ⟨rfl, rfl⟩ ⟨hx, hb, hml, hown, fun w hw => hts w (List.mem_cons_of_mem _ hw), hK, hAd, hEx, ⟨Nat.le_refl _, Nat.le_refl _, Nat.le_refl _, Nat.le_refl _⟩, ?_, fun _ _ q => by cases q⟩ s.heap [] ls hP va_S.rf hlv
  rintro r h' ⟨rfl, rfl⟩ hrk H locs pc ls' hP' hS' hd'
  exact W.iret hx hb hr (fun t ht _ => ⟨⟨some (.int i), _, ⟨rfl, rfl⟩, rfl, by rw [ht]; exact hP'⟩, hS'.F ht⟩) hS'.2.2 hd'
theorem blindV (Y : GY) (As : List Value) (h : Hp) : FrameBlind (va_Pc As (fun U => va_P Y.2.1 classes (wsW Y h) U.heap ∧ va_K Y.2.1 classes (tysW Y) U ∧ ExA Y U U.heap)) := by
  intro a U g mk q
  obtain ⟨q1, q2, q3, q4⟩ := q
  exact ⟨q1, q2, va_K.moved (u := U) (U := U.calling g mk a) (Vm.Alike.refl U.vm) q3, ExA.same q4 rfl⟩
theorem g_chk {X : GX} {d pc : Nat} {lv : List (Option Value)} {t : List Value} {h : Hp} {i n : Int32} (hd1 : decode (mth 57).2.1 pc = .ok (.getstatic 1053, 3)) (hd2 : decode (mth 57).2.1 (pc + 3) = .ok (.invokestatic 1059, 3)) (hcat : (t.map fun v => v.category).sum ≤ 8) (hdd : 0 < d) (h0 : ¬ i < 0) (h1 : i < n) (kk : G X d 57 (pc + 3 + 3) lv (.int i :: t) h) : G X d 57 pc lv (.int n :: .int i :: t) h := by
  obtain ⟨⟨p, l, e, R, s⟩, ⟨m, args, below, meth, c⟩, Y, ⟨ce, sl, Q, Rt⟩, o⟩ := X
  intro E H locs ls hP hS hl
  obtain ⟨hx, hcb, hml, hown, hts, hK, hAd, hEx, ⟨hr1, hr2, hr3, hr4⟩, -⟩ := id E
  have call : ∀ v : Value, (v = .null ∨ ∃ a, v = .ref a) → W p l e R s m args below meth c H locs ce sl Q (F0 m (pc + 3) ls (v :: .int n :: .int i :: t.map (cz Y.1))) := by
    intro v hv
    have hin := wdW_in mc_58
    have hm2 := mo_58
    unfold mOk at hm2
    simp only [Bool.and_eq_true, decide_eq_true_eq] at hm2
    obtain ⟨⟨⟨⟨k3, k4⟩, k5⟩, k6⟩, k7⟩ := hm2
    have hmw := mv_58
    unfold mWd at hmw
    rw [show (mw 58).1 = 0 from rfl] at hmw
    obtain ⟨k2, k8⟩ := hmw
    have cw : CallB R s args (mth 57).1.cls 1059 (mth 58).1 (mth 58).2.1 (mth 58).2.2.1 (mth 58).2.2.2 (wdW 58) (rmD 0) 0 0 (mw 58).2 ∧ (Cond.static (mth 58).1).before args s = true := by
      refine va_cwS (mw 58).2 hts (good_of (fun w hw' => ?_)) rfl rfl rfl ⟨k3, k4, k5⟩ ⟨?_, ?_⟩
      · unfold va_wsS at hw'
        rcases List.mem_append.mp hw' with q | q
        · simp only [List.mem_cons, List.not_mem_nil, or_false] at q
          rcases q with rfl | rfl | rfl
          · exact wd_198
          · exact k8
          · exact k2
        · exact hin w q
      · show 0 + 1 ≤ R.frames
        omega
      · show 8 + ((mth 58).2.2.1 + 11) + 64 * 0 ≤ R.locals
        have : (mth 58).2.2.1 = 3 := rfl
        omega
    have hp : PreS s H (va_Pc [.int i, .int n, v] (fun U => va_P Y.2.1 classes (wsW Y h) U.heap ∧ va_K Y.2.1 classes (tysW Y) U ∧ ExA Y U U.heap)) [.int i, .int n, v] := ⟨blindV Y _ h, fun U hU hW => ⟨rfl, by rw [hU]; exact hP, va_K.moved hW.alike hK, by rw [hU]; exact hEx.go hW hS.2.1⟩⟩
    refine g_after (va_runS (As := [.int i, .int n, v]) (rest := t.map (cz Y.1)) ⟨hx, hcb, hml, hown, hts⟩ (met_58 hAd hv h0 h1) cw hp rfl rfl hl.1 rfl (lv_room ?_) hd2 ⟨hr3, hr4⟩) hS (fun r h' q H1 locs1 hP1 hS1 => ?_)
    · rw [List.map_map]
      have : (fun v : Value => v.category) ∘ cz Y.1 = fun v => v.category := funext fun v => cz_cat Y.1 v
      rw [this]
      exact hcat
    · obtain ⟨rfl, rfl⟩ := q
      exact kk E H1 locs1 ls hP1 hS1 hl
  rcases hEx.2.2.2.2.2 with z | ⟨a, z⟩
  · exact va_gets hx hcb z hS hown (hts _ wd_197) (fun x hx => hx) hd1 (call .null (Or.inl rfl))
  · exact va_gets hx hcb z hS hown (hts _ wd_197) (fun x hx => hx) hd1 (call (.ref a) (Or.inr ⟨a, rfl⟩))
theorem wB_len : wordsB.length = 96 := by decide +kernel
def wch (k : Nat) : Int32 := wordsB.getD k 0
theorem wch_ok : ∀ k, k < 96 → wch k &&& 255 = wch k ∧ (((wch k).toUInt32 % 65536).toInt32) = wch k ∧ narrow .char (.int (wch k)) = .int (wch k) := by decide +kernel
theorem t_57 {i n : Int32} {h : Hp} (h0 : ¬ i < 0) (h1 : i < n) : CV 1 57 [.int i, .int n] h (fun g => g = h) := by
  have d0 : decode (mth 57).2.1 0 = .ok (.iload_n 0, 1) := by decide +kernel
  have d1 : decode (mth 57).2.1 1 = .ok (.iload_n 1, 1) := by decide +kernel
  have d2 : decode (mth 57).2.1 2 = .ok (.getstatic 1053, 3) := by decide +kernel
  have d5 : decode (mth 57).2.1 5 = .ok (.invokestatic 1059, 3) := by decide +kernel
  have d8 : decode (mth 57).2.1 8 = .ok (.pop, 1) := by decide +kernel
  have d9 : decode (mth 57).2.1 9 = .ok (.return_, 1) := by decide +kernel
  refine C.of mo_57 (Nat.le_of_ble_eq_true rfl) (fun X hq => ?_)
  refine g_iload_n d0 rfl rfl ?_
  refine g_iload_n d1 rfl rfl ?_
  refine g_chk d2 d5 (Nat.le_of_ble_eq_true rfl) (by decide) h0 h1 ?_
  refine g_pop d8 rfl ?_
  exact g_retv d9 rfl (hq _ _ ⟨rfl, rfl⟩)
theorem t_53 {h : Hp} : CI 1 53 [.ref 998] h (fun x g => x = 0 ∧ g = h) := by
  have d0 : decode (mth 53).2.1 0 = .ok (.getstatic 38, 3) := by decide +kernel
  have d3 : decode (mth 53).2.1 3 = .ok (.ifCond .eq 10, 3) := by decide +kernel
  have d6 : decode (mth 53).2.1 6 = .ok (.aload_n 0, 1) := by decide +kernel
  have d7 : decode (mth 53).2.1 7 = .ok (.getfield 15, 3) := by decide +kernel
  have d10 : decode (mth 53).2.1 10 = .ok (.goto 4, 3) := by decide +kernel
  have d14 : decode (mth 53).2.1 14 = .ok (.ireturn, 1) := by decide +kernel
  refine C.ofZ (ty := .byte) mo_53 rfl (Nat.le_of_ble_eq_true rfl) (fun X hq => ?_)
  refine g_getsC d0 wd_192 ?_
  refine g_if_eq (tgt := 13) d3 (by decide) (fun q => absurd q (by decide)) (fun _ => ?_)
  refine g_aload_n d6 rfl rfl ?_
  refine g_scod d7 wd_555 ?_
  refine g_goto (tgt := 14) d10 (by decide) ?_
  exact hq _ _ _ _ ⟨rfl, rfl⟩ rfl d14
theorem t_55 {h : Hp} : CI 1 55 [.ref 998] h (fun x g => x = 1 ∧ g = h) := by
  have d0 : decode (mth 55).2.1 0 = .ok (.getstatic 38, 3) := by decide +kernel
  have d3 : decode (mth 55).2.1 3 = .ok (.ifCond .eq 14, 3) := by decide +kernel
  have d6 : decode (mth 55).2.1 6 = .ok (.aload_n 0, 1) := by decide +kernel
  have d7 : decode (mth 55).2.1 7 = .ok (.getfield 15, 3) := by decide +kernel
  have d10 : decode (mth 55).2.1 10 = .ok (.ifCond .ne 7, 3) := by decide +kernel
  have d13 : decode (mth 55).2.1 13 = .ok (.iconst 1, 1) := by decide +kernel
  have d14 : decode (mth 55).2.1 14 = .ok (.goto 4, 3) := by decide +kernel
  have d18 : decode (mth 55).2.1 18 = .ok (.ireturn, 1) := by decide +kernel
  refine C.of mo_55 (Nat.le_of_ble_eq_true rfl) (fun X hq => ?_)
  refine g_getsC d0 wd_192 ?_
  refine g_if_eq (tgt := 17) d3 (by decide) (fun q => absurd q (by decide)) (fun _ => ?_)
  refine g_aload_n d6 rfl rfl ?_
  refine g_scod d7 wd_555 ?_
  refine g_if_ne (tgt := 17) d10 (by decide) (fun q => absurd rfl q) (fun _ => ?_)
  refine g_iconst (v := 1) d13 (by decide) ?_
  refine g_goto (tgt := 18) d14 (by decide) ?_
  exact g_retz d18 rfl (Or.inr rfl) (hq _ _ ⟨1, rfl, rfl, rfl⟩)
theorem t_52 {h : Hp} : CI 2 52 [.ref 998] h (fun x g => x = nI 96 ∧ g = h) := by
  have d0 : decode (mth 52).2.1 0 = .ok (.aload_n 0, 1) := by decide +kernel
  have d1 : decode (mth 52).2.1 1 = .ok (.getfield 9, 3) := by decide +kernel
  have d4 : decode (mth 52).2.1 4 = .ok (.arraylength, 1) := by decide +kernel
  have d5 : decode (mth 52).2.1 5 = .ok (.aload_n 0, 1) := by decide +kernel
  have d6 : decode (mth 52).2.1 6 = .ok (.invokevirtual 335, 3) := by decide +kernel
  have d9 : decode (mth 52).2.1 9 = .ok (.ishr, 1) := by decide +kernel
  have d10 : decode (mth 52).2.1 10 = .ok (.ireturn, 1) := by decide +kernel
  refine C.of mo_52 (Nat.le_of_ble_eq_true rfl) (fun X hq => ?_)
  refine g_aload_n d0 rfl rfl ?_
  refine g_sval d1 wd_554 ?_
  refine g_blen d4 ?_
  refine g_aload_n d5 rfl rfl ?_
  refine g_callT (mj := 53) (As := []) d6 wd_191 mo_53 mc_53 mv_53 rfl rfl rfl (Nat.le_of_ble_eq_true rfl) (show 1 < 2 by decide) t_53 (fun r h' q => ?_)
  obtain ⟨x, rfl, rfl, rfl⟩ := q
  refine g_ishr d9 ?_
  have e : nI wordsB.length >>> ((0 : Int32) &&& 31) = nI 96 := by decide +kernel
  rw [e]
  exact g_reti d10 rfl (hq _ _ ⟨_, rfl, rfl, rfl⟩)
theorem t_56 {h : Hp} {k : Nat} (hk : k < 96) : CI 2 56 [.ref 996, .int (nI k)] h (fun x g => x = wch k ∧ g = h) := by
  have d0 : decode (mth 56).2.1 0 = .ok (.iload_n 1, 1) := by decide +kernel
  have d1 : decode (mth 56).2.1 1 = .ok (.aload_n 0, 1) := by decide +kernel
  have d2 : decode (mth 56).2.1 2 = .ok (.arraylength, 1) := by decide +kernel
  have d3 : decode (mth 56).2.1 3 = .ok (.invokestatic 9, 3) := by decide +kernel
  have d6 : decode (mth 56).2.1 6 = .ok (.aload_n 0, 1) := by decide +kernel
  have d7 : decode (mth 56).2.1 7 = .ok (.iload_n 1, 1) := by decide +kernel
  have d8 : decode (mth 56).2.1 8 = .ok (.baload, 1) := by decide +kernel
  have d9 : decode (mth 56).2.1 9 = .ok (.sipush 255, 3) := by decide +kernel
  have d12 : decode (mth 56).2.1 12 = .ok (.iand, 1) := by decide +kernel
  have d13 : decode (mth 56).2.1 13 = .ok (.i2c, 1) := by decide +kernel
  have d14 : decode (mth 56).2.1 14 = .ok (.ireturn, 1) := by decide +kernel
  obtain ⟨w1, w2, w3⟩ := wch_ok k hk
  refine C.ofZ (ty := .char) mo_56 rfl (Nat.le_of_ble_eq_true rfl) (fun X hq => ?_)
  refine g_iload_n d0 rfl rfl ?_
  refine g_aload_n d1 rfl rfl ?_
  refine g_blen d2 ?_
  refine g_callS (mj := 57) (As := [.int (nI k), .int (nI wordsB.length)]) (t := []) d3 wd_196 mo_57 mc_57 mv_57 rfl rfl (Nat.le_of_ble_eq_true rfl) (show 1 < 2 by decide) (t_57 (nI_pos (by omega)) (by rw [wB_len]; exact nI_lt hk (by decide))) (fun r h' q => ?_)
  obtain ⟨rfl, rfl⟩ := q
  refine g_aload_n d6 rfl rfl ?_
  refine g_iload_n d7 rfl rfl ?_
  refine g_bld d8 (by rw [wB_len]; exact vp_in_nI hk (by decide)) ?_
  rw [nI_clamp (by omega)]
  refine g_sipush (v := 255) d9 (by decide) ?_
  refine g_iand d12 ?_
  refine g_i2c d13 ?_
  show G X 2 56 14 _ [.int ((((wch k) &&& 255).toUInt32 % 65536).toInt32)] _
  rw [w1, w2]
  exact hq _ _ _ _ ⟨rfl, rfl⟩ w3 d14
theorem t_54 {h : Hp} {k : Nat} (hk : k < 96) : CI 3 54 [.ref 998, .int (nI k)] h (fun x g => x = wch k ∧ g = h) := by
  have d0 : decode (mth 54).2.1 0 = .ok (.aload_n 0, 1) := by decide +kernel
  have d1 : decode (mth 54).2.1 1 = .ok (.invokevirtual 492, 3) := by decide +kernel
  have d4 : decode (mth 54).2.1 4 = .ok (.ifCond .eq 12, 3) := by decide +kernel
  have d7 : decode (mth 54).2.1 7 = .ok (.aload_n 0, 1) := by decide +kernel
  have d8 : decode (mth 54).2.1 8 = .ok (.getfield 9, 3) := by decide +kernel
  have d11 : decode (mth 54).2.1 11 = .ok (.iload_n 1, 1) := by decide +kernel
  have d12 : decode (mth 54).2.1 12 = .ok (.invokestatic 495, 3) := by decide +kernel
  have d15 : decode (mth 54).2.1 15 = .ok (.ireturn, 1) := by decide +kernel
  obtain ⟨w1, w2, w3⟩ := wch_ok k hk
  refine C.ofZ (ty := .char) mo_54 rfl (Nat.le_of_ble_eq_true rfl) (fun X hq => ?_)
  refine g_aload_n d0 rfl rfl ?_
  refine g_callT (mj := 55) (As := []) d1 wd_194 mo_55 mc_55 mv_55 rfl rfl rfl (Nat.le_of_ble_eq_true rfl) (show 1 < 3 by decide) t_55 (fun r h' q => ?_)
  obtain ⟨x, rfl, rfl, rfl⟩ := q
  refine g_if_eq (tgt := 16) d4 (by decide) (fun q => absurd q (by decide)) (fun _ => ?_)
  refine g_aload_n d7 rfl rfl ?_
  refine g_sval d8 wd_554 ?_
  refine g_iload_n d11 rfl rfl ?_
  refine g_callS (mj := 56) (As := [.ref 996, .int (nI k)]) (t := []) d12 wd_195 mo_56 mc_56 mv_56 rfl rfl (Nat.le_of_ble_eq_true rfl) (show 2 < 3 by decide) (t_56 hk) (fun r h' q => ?_)
  obtain ⟨x, rfl, rfl, rfl⟩ := q
  exact hq _ _ _ _ ⟨rfl, rfl⟩ w3 d15
/-- isSpelt -/
theorem k_63_23 {X : GX} {d : Nat} {h : Hp} {p e a i : Nat} (hd : 3 < d) (hp : p + i < 200) (ha : a + i < 96) (kk : G X d 63 41 [some (.ref 21), some (.int (nI p)), some (.int (nI e)), some (.int (nI a)), none, some (.int (nI i))] [.int (wch (a + i)), .int (h 22 (p + i))] h) : G X d 63 23 [some (.ref 21), some (.int (nI p)), some (.int (nI e)), some (.int (nI a)), none, some (.int (nI i))] [] h := by
  refine g_aload_n d_63_23 rfl rfl ?_
  refine g_getf (ci := 4) (k := 0) d_63_24 wd_74 (Nat.le_of_ble_eq_true rfl) rfl rfl ?_
  refine g_iload_n d_63_27 rfl rfl ?_
  refine g_iload d_63_28 rfl ?_
  refine g_iadd d_63_30 ?_
  rw [nI_add]
  refine g_iald d_63_31 (IA.of rfl hp (by decide)) ?_
  rw [nI_clamp (by omega)]
  refine g_ldcS d_63_32 rfl ?_
  refine g_iload_n d_63_34 rfl rfl ?_
  refine g_iload d_63_35 rfl ?_
  refine g_iadd d_63_37 ?_
  rw [nI_add]
  refine g_callT (mj := 54) (As := [.int (nI (a + i))]) (t := [.int (h 22 (p + i))]) d_63_38 wd_193 mo_54 mc_54 mv_54 rfl rfl rfl (Nat.le_of_ble_eq_true rfl) hd (t_54 ha) (fun r h' q => ?_)
  obtain ⟨x, rfl, rfl, rfl⟩ := q
  exact kk
theorem w_63 {X : GX} {d : Nat} {h : Hp} {p e a : Nat} (hd : 3 < d) (he : e ≤ 200) (ha : a + (e - p) ≤ 96) (hpe : p ≤ e) {P : Prop} (hP : P ↔ ∀ j, j < e - p → h 22 (p + j) = wch (a + j)) (h1 : P → RtX X (some (.int 1)) h) (h0 : ¬ P → RtX X (some (.int 0)) h) : ∀ (r i : Nat), i + r = e - p → (∀ j, j < i → h 22 (p + j) = wch (a + j)) → G X d 63 15 [some (.ref 21), some (.int (nI p)), some (.int (nI e)), some (.int (nI a)), none, some (.int (nI i))] [] h := by
  intro r
  induction r with
  | zero =>
    intro i hi hj
    refine k_63_15 (fun _ => ?_) (fun q => absurd (show nI e - nI p ≤ nI i by rw [pk_sub hpe]; exact nI_le (by omega) (by omega)) q)
    exact k_63_52 (h1 (hP.mpr (fun j hj2 => hj j (by omega))))
  | succ r ih =>
    intro i hi hj
    refine k_63_15 (fun q => absurd q (by rw [pk_sub hpe]; exact nI_ge (by omega) (by omega))) (fun _ => ?_)
    refine k_63_23 hd (by omega) (by omega) ?_
    refine k_63_41 (fun q => ?_) (fun q => ?_)
    · refine k_63_46 ?_
      rw [nI_1]
      exact ih (i + 1) (by omega) (fun j hj2 => by
        by_cases e : j = i
        · rw [e]; exact q
        · exact hj j (by omega))
    · exact k_63_44 (h0 (fun w => q (hP.mp w i (by omega))))
theorem t_63 {h : Hp} {p e a b : Nat} (hpe : p ≤ e) (he : e ≤ 200) (hab : a ≤ b) (hb : b ≤ 96) : CI 4 63 [.ref 21, .int (nI p), .int (nI e), .int (nI a), .int (nI b)] h (fun x g => g = h ∧ ((x = 1 ∧ e - p = b - a ∧ ∀ j, j < e - p → h 22 (p + j) = wch (a + j)) ∨ (x = 0 ∧ ¬ (e - p = b - a ∧ ∀ j, j < e - p → h 22 (p + j) = wch (a + j))))) := by
  refine C.of mo_63 (Nat.le_of_ble_eq_true rfl) (fun X hq => ?_)
  refine k_63_0 (fun q => ?_) (fun q => ?_)
  · rw [pk_sub hpe, pk_sub hab, nI_eq (by omega) (by omega)] at q
    refine k_63_12 ?_
    exact w_63 (P := ∀ j, j < e - p → h 22 (p + j) = wch (a + j)) (by decide) he (by omega) hpe Iff.rfl (fun w => hq _ _ ⟨1, rfl, rfl, Or.inl ⟨rfl, q, w⟩⟩) (fun w => hq _ _ ⟨0, rfl, rfl, Or.inr ⟨rfl, fun z => w z.2⟩⟩) (e - p) 0 (by omega) (fun j hj => absurd hj (by omega))
  · rw [pk_sub hpe, pk_sub hab, nI_eq (by omega) (by omega)] at q
    exact k_63_10 (hq _ _ ⟨0, rfl, rfl, Or.inr ⟨rfl, fun z => q z.1⟩⟩)
/-- how the words lie in their text -/
def layB : Nat → List (List Nat) → Bool
  | off, [] => off == 96
  | off, w :: t => (List.range w.length).all (fun k => wch (off + k) == nI (w.getD k 0) && wch (off + k) != 32) && wch (off + w.length) == 32 && decide (off + w.length < 96) && layB (off + w.length + 1) t
theorem lay_0 : layB 0 wdL = true := by decide +kernel
theorem lay_c {off : Nat} {w : List Nat} {t : List (List Nat)} (h : layB off (w :: t) = true) : (∀ k, k < w.length → wch (off + k) = nI (w.getD k 0) ∧ wch (off + k) ≠ 32) ∧ wch (off + w.length) = 32 ∧ off + w.length < 96 ∧ layB (off + w.length + 1) t = true := by
  unfold layB at h
  simp only [Bool.and_eq_true, decide_eq_true_eq, List.all_eq_true, List.mem_range, beq_iff_eq, bne_iff_ne] at h
  exact ⟨h.1.1.1, h.1.1.2, h.1.2, h.2⟩
theorem k_51_8 {X : GX} {d : Nat} {h : Hp} {v1 v2 v3 v4 : Int32} {i : Nat} (hd : 3 < d) (hi : i ≤ 96) (kt : 96 ≤ i → G X d 51 63 [none, none, none, none, none, none] [] h) (kf : i < 96 → G X d 51 25 [some (.ref 21), some (.int v1), some (.int v2), some (.int v3), some (.int v4), some (.int (nI i))] [.int (wch i)] h) : G X d 51 8 [some (.ref 21), some (.int v1), some (.int v2), some (.int v3), some (.int v4), some (.int (nI i))] [] h := by
  refine g_iload d_51_8 rfl ?_
  refine g_ldcS d_51_10 rfl ?_
  refine g_callT (mj := 52) (As := []) (t := [.int (nI i)]) d_51_12 wd_190 mo_52 mc_52 mv_52 rfl rfl rfl (Nat.le_of_ble_eq_true rfl) (show 2 < d by omega) t_52 (fun r h' q => ?_)
  obtain ⟨x, rfl, rfl, rfl⟩ := q
  refine k_51_15 (fun q => ?_) (fun q => ?_)
  · exact kt ((nI_leI (by decide) (by omega)).mp q)
  · have i96 : i < 96 := by
      rcases Nat.lt_or_ge i 96 with c | c
      · exact c
      · exact absurd (nI_le c (by omega)) q
    refine g_ldcS d_51_18 rfl ?_
    refine g_iload d_51_20 rfl ?_
    refine g_callT (mj := 54) (As := [.int (nI i)]) (t := []) d_51_22 wd_193 mo_54 mc_54 mv_54 rfl rfl rfl (Nat.le_of_ble_eq_true rfl) (show 3 < d by omega) (t_54 i96) (fun r h' q => ?_)
    obtain ⟨x, rfl, rfl, rfl⟩ := q
    exact kf i96
theorem w_51 {X : GX} {d : Nat} {h : Hp} {p e : Nat} (hd : 4 < d) (hpe : p ≤ e) (he : e ≤ 200) : ∀ (l : List (List Nat)) (off w : Nat), layB off l = true → RtX X (some (.int (nI (wdF (fun j => h 22 (p + j)) (e - p) l w)))) h → G X d 51 8 [some (.ref 21), some (.int (nI p)), some (.int (nI e)), some (.int (nI w)), some (.int (nI off)), some (.int (nI off))] [] h := by
  intro l
  induction l with
  | nil =>
    intro off w hl hq
    have ho : off = 96 := by
      unfold layB at hl
      exact beq_iff_eq.mp hl
    refine k_51_8 (by omega) (by omega) (fun _ => ?_) (fun q => by omega)
    exact k_51_63 hq
  | cons wd t ih =>
    intro off w hl hq
    obtain ⟨l1, l2, l3, l4⟩ := lay_c hl
    have skip : ∀ (r k : Nat), k + r = wd.length → G X d 51 8 [some (.ref 21), some (.int (nI p)), some (.int (nI e)), some (.int (nI w)), some (.int (nI off)), some (.int (nI (off + wd.length)))] [] h → G X d 51 8 [some (.ref 21), some (.int (nI p)), some (.int (nI e)), some (.int (nI w)), some (.int (nI off)), some (.int (nI (off + k)))] [] h := by
      intro r
      induction r with
      | zero =>
        intro k hk g
        rw [show k = wd.length by omega]
        exact g
      | succ r ihr =>
        intro k hk g
        refine k_51_8 (by omega) (by omega) (fun q => by omega) (fun _ => ?_)
        refine k_51_25 (fun q => absurd q (l1 k (by omega)).2) (fun _ => ?_)
        refine k_51_30 ?_
        rw [nI_1]
        exact ihr (k + 1) (by omega) g
    have s0 := skip wd.length 0 (by omega)
    rw [Nat.add_zero] at s0
    refine s0 ?_
    refine k_51_8 (by omega) (by omega) (fun q => by omega) (fun _ => ?_)
    refine k_51_25 (fun _ => ?_) (fun q => absurd l2 q)
    refine k_51_33 hd (t_63 hpe he (show off ≤ off + wd.length by omega) (by omega)) (fun x h' q => ?_)
    obtain ⟨rfl, q⟩ := q
    have iff : (e - p = off + wd.length - off ∧ ∀ j, j < e - p → h' 22 (p + j) = wch (off + j)) ↔ (wd.length = e - p ∧ ∀ j, j < e - p → h' 22 (p + j) = nI (wd.getD j 0)) := by
      constructor
      · rintro ⟨c1, c2⟩
        exact ⟨by omega, fun j hj => by rw [c2 j hj, (l1 j (by omega)).1]⟩
      · rintro ⟨c1, c2⟩
        exact ⟨by omega, fun j hj => by rw [c2 j hj, (l1 j (by omega)).1]⟩
    have hs : wdF (fun j => h' 22 (p + j)) (e - p) (wd :: t) w = @ite Nat (wd.length = e - p ∧ ∀ j, j < e - p → h' 22 (p + j) = nI (wd.getD j 0)) (Classical.propDecidable _) w (wdF (fun j => h' 22 (p + j)) (e - p) t (w + 1)) := rfl
    rw [hs] at hq
    rcases q with ⟨rfl, c⟩ | ⟨rfl, c⟩
    · rw [if_pos (iff.mp (by exact c))] at hq
      refine k_51_43 (fun q => absurd q (by decide)) (fun _ => ?_)
      exact k_51_46 hq
    · rw [if_neg (fun z => c (by exact iff.mpr z))] at hq
      refine k_51_43 (fun _ => ?_) (fun q => absurd rfl q)
      refine k_51_48 ?_
      rw [nI_1, nI_1]
      exact ih (off + wd.length + 1) (w + 1) l4 hq
theorem t_51 {v1 : Int32} {v2 : Int32} {h : Hp} {r : Int32 × Hp} (e : S_51 v1 v2 h = some r) : CI 20 51 [.ref 21, .int v1, .int v2] h (fun x g => x = r.1 ∧ g = r.2) := by
  unfold S_51 at e
  obtain ⟨⟨e1, e2, e3, e4⟩, e⟩ := gd_s e
  have e := Option.some.inj e
  subst e
  generalize v1.toNatClampNeg = p at *
  generalize v2.toNatClampNeg = q at *
  subst e1 e2
  refine C.of mo_51 (Nat.le_of_ble_eq_true rfl) (fun X hq => ?_)
  refine k_51_0 ?_
  exact w_51 (by decide) (by omega) e4 wdL 0 0 lay_0 (hq _ _ ⟨_, rfl, rfl, rfl⟩)
