/-! THE CLAIM OUT OF ONE WALK OF THE LAW'S BODY. Your part is whole_start (and what it stands on); all else here is the same for every law, but numbers. -/
def R_law : String := "PlayedTruthLaw"
def lw_P (b : Addr) (xs : List Int32) (args : Array Value) (s : State) : Prop := args = #[.ref b] ∧ s.IntsAt b xs ∧ xs.length ≤ 2560 ∧ (Jvm.Cond.and given_1 narrow_1).before args s = true
def lw_Q (_ : Array Value) (s : State) (o : Outcome) (t : State) : Prop := o = .returned (some (.int 1)) ∧ Framed s o t [] 600000 7302250
def lw_Z (below : List Frame) (a : Array Value) (s : State) : State → Prop := fun t => ∃ o, t.status = .running ∧ Ended t below o ∧ lw_Q a s o t
/-- the law's own end, with 1 on the stack, nothing written that was there before, its room as the claim has it -/
theorem lw_ret {p : Program} {l : Launch} {e : Env} {s : State} {m : MethodId} {below : List Frame} {meth : Method} {c : Code} {b : Nat} (hx : p.tables.exec = Jvm.exec) (hb : c.code = code) (hr : meth.sig.returnType = ret) (hlocks : meth.locks = false) {pc : Nat} {H : Heap} {ls : Array Slot} (hdg : decode code pc = .ok (.ireturn, 1)) : W p l e room_1 s m #[Value.ref b] below meth c H [] 600000 7302250 (lw_Z below #[Value.ref b] s) (F0 m pc ls [.int 1]) := by
  intro T hT X
  obtain ⟨fs, hret, hrun, hended, hW, hframe⟩ := X.leave (v := some (.int 1)) (hlocks := hlocks) (fun h => by rw [hr] at h; cases h)
  have hmeth' : T.vm.method? m = some meth := X.method'
  refine ⟨T.setFrames fs, ?_, .returned (some (.int 1)), hrun, hended, rfl, ⟨_, rfl⟩, hW, hframe⟩
  jvm_step X.here [X.here.top, hx, hb, hdg, hmeth', hr, ret, narrow_b1]
  (try refine ⟨rfl, ?_⟩); (try refine ⟨rfl, ?_⟩)
  first | (intro acts; rw [hret _ acts rfl rfl rfl]) | rw [hret _ _ rfl rfl rfl]
  exact Steps.refl _
/-- what holds at the law's entry: the machine, the code, the tables' words (any of lw_tbl by 'hts w (by decide +kernel)'), the script of L ints xs at the cell b, what the Statement gives of the start (any of its parts by flat_of_before) -/
def lw_At (p : Program) (s : State) (m : MethodId) (meth : Method) (c : Code) (b L : Nat) (xs : Nat → Int32) : Prop :=
  p.tables.exec = Jvm.exec ∧ c.code = code ∧ meth.sig.returnType = ret ∧ c.maxLocals = 4 ∧ s.vm.findClass R_law = some m.cls ∧ (∀ w ∈ lw_tbl, w.before #[Value.ref b] s = true) ∧ va_X b L xs s s.heap ∧ b < s.heap.size ∧ meth.locks = false ∧ (Jvm.Cond.and given_1 narrow_1).before #[Value.ref b] s = true
-- ===== YOUR PART BEGINS =====
theorem whole_start {p : Program} {e : Env} {s : State} {m : MethodId} {below : List Frame} {meth : Method} {c : Code} (l : Launch) (hflags : l.flags = flags0) {b L : Nat} {xs : Nat → Int32} (hL : L ≤ 2560) (C0 : lw_At p s m meth c b L xs) : W p l e room_1 s m #[Value.ref b] below meth c s.heap [] 0 0 (lw_Z below #[Value.ref b] s) (entryFrame m ([Value.ref b] : List Value).toArray 4) := by
  obtain ⟨hx, hb, hr0, hml, hown, hts, hX, hbl, hlocks, hgv⟩ := id C0
  have htb : ∀ w ∈ tbl, w.before #[Value.ref b] s = true := fun w hw => hts w (List.mem_filter.mp hw).1
  have hs := flat_of_before _ hgv
  have hA0 : ∀ a : Nat, a < s.heap.size → ¬ AK s.heap.size a := fun a h => Nat.not_le.mpr h
  obtain ⟨tB, hB1, hB2⟩ := va_Tof (tm := tBo) (ty := .int) (N := 24) (f := fun j => .int (bodyOf j)) (A := AK s.heap.size) (by decide) (hs _ fl_b1) (va_eqt (hs _ fl_b2)) (fun j hj => va_eqt (hs _ (fl_bo j hj))) hA0
  obtain ⟨adK, adV, hS1, hS2⟩ := vk_Sof (N := 1) (tm := fun _ => tWd) (len := [wordsB.length]) (byt := [wordsB]) (A := AK s.heap.size) (fun i hi => by obtain rfl : i = 0 := (by omega); decide) (fun i hi => hs _ fl_w1) (fun i hi => hs _ fl_w2) (fun i hi => hs _ fl_w3) (fun i hi => by obtain rfl : i = 0 := (by omega); exact hs _ fl_w4) (fun i hi j hj => by obtain rfl : i = 0 := (by omega); exact hs _ (fl_wd j hj)) (fun i j hi hj q => absurd (show i = j by omega) q) hA0
  have hC := va_Zof (A := AK s.heap.size) (hts _ ws_cs) (hts _ ws_ist) (va_eqt (hs _ fl_c)) hA0
  have hQ := va_Zqof (A := AK s.heap.size) (hts _ ws_sf) (hts _ ws_ipr) (hs _ fl_s) hA0
  have hBo := va_Zof (A := AK s.heap.size) (hts _ ws_bo) (hts _ ws_iac) hB1 hA0
  have hR : vk_R "PlayedTruth$RuleReader" 75 wordsTx (adK 0) s := vk_R.of (hts _ ws_sr) (hS2 0 (by decide))
  obtain ⟨D, hKc⟩ := u_all htb
  obtain ⟨ct, hKt, hNs⟩ := arr_all hts
  have hK : va_K D classes (tysC ct) s := ⟨hKc, hKt⟩
  have main : K ((p, l, e, room_1, s), (m, #[Value.ref b], below, meth, c), (D, ct, s.heap.size), (0, 101, fun c => if c = 999 then b else if c = 998 then adK 0 else if c = 997 then tB else adV 0), (lw_Z below #[Value.ref b] s, fun _ _ => False)) 300 295 0 [some (.ref 999), none, none, none] [] zH 0 := by
    refine k_law rfl ?_
    intro E' hb' hw' o1 o2 ad H locs ls ha hA hP hS hl
    have e999 : ad 999 = b := ha 999 (Or.inr (by decide))
    have e998 : ad 998 = adK 0 := ha 998 (Or.inr (by decide))
    have e997 : ad 997 = tB := ha 997 (Or.inr (by decide))
    have e996 : ad 996 = adV 0 := ha 996 (Or.inr (by decide))
    refine va_forget (fun q hq => hS.2.2 q hq) ?_
    have hAW : ∀ q, AW (ad, D, ct) q → AK s.heap.size q := by
      rintro q ⟨c, hc, rfl⟩
      exact hA.2 c hc
    refine law_loop (X := ((p, l, e, room_1, s), (m, #[Value.ref b], below, meth, c), (ad, D, ct), (101 - 0, szN 101 - szN 0, lw_Z below #[Value.ref b] s, fun r _ => r = some (.int 1)), some (L, xs))) rfl hL (fun _ => rfl) L 0 hF (Nat.sub_le _ _) (Nat.zero_le _) inv_F ⟨hx, hb, hml, hown, htb, hK, hA.1, ⟨?_, ?_, ?_, ?_, ?_, ?_⟩, ⟨by decide, by decide, by decide, by decide +kernel⟩, ?_, ?_⟩ H [] ls (wsW_full hP) ⟨hS.1, fun q h1 h2 => hS.2.1 q h1 (Nat.not_le.mpr h1), fun q hq => by cases hq⟩ hl
    · show va_Z _ _ _ (.ref (ad 997)) _ _ _
      rw [e997]
      exact hBo.re hAW
    · show va_T _ (ad 997) _ _ _ _ _
      rw [e997]
      exact hB2.re hAW
    · show vk_R _ _ _ (ad 998) _
      rw [e998]
      exact hR
    · show vk_S _ _ _ (fun _ => ad 998) (fun _ => ad 996) _ _ _
      rw [e998, e996]
      refine ⟨fun i hi => ?_, fun i j hi hj _ => by omega⟩
      obtain rfl : i = 0 := by omega
      obtain ⟨g1, g2, g3, g4⟩ := hS1.1 0 (by decide)
      exact ⟨g1.re hAW, g2.re hAW, g3.re hAW, g4.re hAW⟩
    · exact hC.re hAW
    · exact hQ.re hAW
    · intro r h9 hr9 _ H9 locs9 pc9 ls9 _ hS9 hd9
      have hr9 : r = some (.int 1) := hr9
      subst hr9
      refine W.widen (k := 600000) (n := 7302250) (by decide) (by decide +kernel) ?_
      refine va_forget (fun q hq => hAW _ (hS9.2.2 q hq)) ?_
      exact lw_ret hx hb hr0 hlocks hd9
    · intro L' xs' q
      cases q
      refine ⟨?_, ?_, ?_⟩
      · show va_X (ad 999) _ _ _ _
        rw [e999]
        exact hX
      · show ad 999 < _
        rw [e999]
        exact hbl
      · intro q
        have q2 : s.heap.size ≤ ad 999 := hAW _ q
        rw [e999] at q2
        omega
  have hl := lv_entry ([.ref b]) (n := 4) (Nat.le_of_ble_eq_true rfl)
  rw [lg_entry_eq]
  generalize (lg_sl ([.ref b]) ++ List.replicate (4 - (lg_sl ([.ref b])).length) Slot.unset).toArray = ls at hl ⊢
  refine main ⟨hx, hb, hml, hown, htb, hK, hNs, ⟨by decide, by decide, by decide, by decide +kernel⟩, ⟨Nat.le_refl _, by decide, by decide, fun q => absurd q (by decide)⟩, fun h n q => absurd q id⟩ ⟨Nat.le_refl 0, by decide⟩ ⟨fun c ci k hc => absurd hc (Nat.not_lt_zero c), fun c t i hc => absurd hc (Nat.not_lt_zero c), fun c _ => rfl⟩ (fun v hv => by cases hv) (fun i v hi => ?_) _ s.heap [] ls (fun c _ => rfl) ⟨fun i j hi => absurd hi (Nat.not_lt_zero i), fun i hi => absurd hi (Nat.not_lt_zero i)⟩ (fun k q hk => by cases hk) va_S.rf ⟨hl.1, hl.2.1, fun i v hi => ?_⟩
  · match i, hi with
    | 0, hi => cases hi; exact Or.inr (by decide)
    | 1, hi => cases hi
    | 2, hi => cases hi
    | 3, hi => cases hi
    | i + 4, hi => cases hi
  · match i, hi with
    | 0, hi => cases hi; exact hl.2.2 (0, .ref b) List.mem_cons_self
    | 1, hi => cases hi
    | 2, hi => cases hi
    | 3, hi => cases hi
    | i + 4, hi => cases hi
-- ===== YOUR PART ENDS =====
set_option maxHeartbeats 4000000 in
theorem lw_walk (l : Launch) (hflags : l.flags = flags0) (b : Addr) (xs : List Int32) : MetFree l x (headSpec (Jvm.Cond.code x code maxLocals ret :: tables_1) room_1) (lw_P b xs) (fun _ _ _ _ _ => True) lw_Q := by
  refine MetFree.of_bodyS (code := code) (maxLocals := maxLocals) (ret := ret) (by decide) ?_ ?_
  · intro args s m h hn
    obtain ⟨meth, c, h1, h2, h3, h4, h5, h6, -, -⟩ := Cond.code_spec hn (atoms_spec (ws := Jvm.Cond.code x code maxLocals ret :: tables_1) h _ List.mem_cons_self)
    exact ⟨meth, c, h1, h2, h3, h4, h5, h6⟩
  · intro p e s m args below meth c s₁ B hml0 hP _
    obtain ⟨rfl, hx, hbd, hgv⟩ := hP
    obtain ⟨scr, harrAt, hlist, hof, hsmall⟩ := hx
    obtain ⟨hcb, hkn, -, -⟩ := State.arrayAt?_spec harrAt
    have hown : s.vm.findClass R_law = some m.cls := findClass_of_methodNamed B.named
    have hts0 : ∀ c ∈ (Jvm.Cond.code x code maxLocals ret :: tables_1), c.before #[Value.ref b] s = true := atoms_spec (ws := Jvm.Cond.code x code maxLocals ret :: tables_1) B.pre
    have hts : ∀ w ∈ lw_tbl, w.before #[Value.ref b] s = true := k2_hts_sels lw_privs (fun w hw => hts0 w (List.mem_cons_of_mem _ hw)) lw_privs_ok
    have hml : c.maxLocals = 4 := B.maxLocals_eq (hts0 _ List.mem_cons_self)
    have X₀ : Stand p l e room_1 s m #[Value.ref b] below meth c s₁ [] 0 0 := Stand.of_body B
    have hh0 : s₁.heap = s.heap := by rw [B.state]; rfl
    have hsz : scr.slots.size = xs.length := by rw [← Array.length_toList, hlist, List.length_map]
    have hval : ∀ j : Nat, j < xs.length → scr.slots[j]? = some (.int (xs.getD j 0)) := fun j hj => by
      rw [← Array.getElem?_toList, hlist]
      simp [hj]
    have hbl : b < s.heap.size := (Array.getElem?_eq_some_iff.mp hcb).1
    have hX : va_X b xs.length (fun j => xs.getD j 0) s s.heap := ⟨scr, hcb, hof, hkn, hsz, hval⟩
    have K : W p l e room_1 s m #[Value.ref b] below meth c s₁.heap [] 0 0 (lw_Z below #[Value.ref b] s) (entryFrame m ([Value.ref b] : List Value).toArray 4) := by
      rw [hh0]
      exact whole_start l hflags hbd ⟨B.exec, B.bytes, B.returns, hml, hown, hts, hX, hbl, B.notSynchronized, hgv⟩
    obtain ⟨t, a1, o, b1, b2, b3⟩ := K s₁ rfl X₀
    exact ⟨t, o, a1, b1, b2, b3⟩
theorem lw_pre_spec {args : Array Value} {s : State} (h : (Jvm.Cond.and given_1 narrow_1).before args s = true) (hr : rest_1_c.before args s = true) : ∃ (b : Addr) (xs : List Int32), lw_P b xs args s := by
  have hs := flat_of_before _ h
  have hq := flat_of_before _ hr
  have hc : (Cond.count 1).before args s = true := hs _ (by decide +kernel)
  have harr : (Cond.arrayOf (.arg 0) .int).before args s = true := hs _ (by decide +kernel)
  have hle : (Cond.le (.length (.arg 0)) (.int 2560)).before args s = true := hs _ (by decide +kernel)
  have hlen : (Cond.isInt (.length (.arg 0))).before args s = true := hq _ (by decide +kernel)
  have hall : (Cond.all (.arg 0) (.isInt (.elem (.arg 0) (.index 0)))).before args s = true := hq _ (by decide +kernel)
  obtain ⟨b, xs, hb, hx⟩ := State.ints_of_pre rfl harr hlen hall
  have hsm : xs.length < 2 ^ 31 := hx.choose_spec.2.2.2
  have hev : (Term.length (.arg 0)).eval args s none [] s = some (.int xs.length.toInt32) := hx.length_eval hb
  have hv := Cond.le_ints hev (show (Term.int 2560).eval args s none [] s = some (.int 2560) from rfl)
  have hd : xs.length.toInt32 ≤ 2560 := by
    simpa [Cond.before, Cond.holds, hv] using hle
  have hN : xs.length ≤ 2560 := (Int32.ofNat_le_ofNat hsm (by decide)).mp (show Int32.ofNat xs.length ≤ Int32.ofNat 2560 from hd)
  exact ⟨b, xs, Cond.one_arg hc (show args[0]? = some (.ref b) from hb), hx, hN, h⟩
theorem lw_comes (l : Launch) (hflags : l.flags = flags0) : Comes l x (Jvm.Cond.code x code maxLocals ret :: tables_1) room_1 (fun tb e args s => Calls_1 tb e args s ∧ rest_1 tb e args s ∧ Pre_1 tb e args s)
    (fun _ _ args s o t => lw_Q args s o t) := by
  intro p e ha hc hk s m args below hf hfit hheap happ hpre
  obtain ⟨b, xs, hP⟩ := lw_pre_spec hpre.2.2 hpre.2.1
  obtain ⟨k, o, h1, h2, h3, hQ⟩ := lw_walk l hflags b xs p e ha hc hk s m args below hf ((Spec.applies_iff_loose hf).mp happ).1 hP trivial
  exact ⟨k, o, h1, h2, h3, hQ⟩
theorem lw_frame {s t : State} {o : Outcome} {args : Array Value} (h : Framed s o t [] 600000 7302250) :
    Framed s o t (fieldLocs frame_1_writes args s ++ arrayLocs frame_1_arrays args s ++ staticLocs frame_1_statics s) 600000 7302250 := h
theorem lw_limb (L : Cond) (hL : ∀ (args : Array Value) (s t : State), L.after args s (.returned (some (.int 1))) t = true) :
    ArmFor flags0 classFile x code maxLocals ret World_1 tables_1 room_1 Calls_1 rest_1 Pre_1
      (fun tb e a s o t => postC L tb e a s o t ∧ Framed s o t (fieldLocs frame_1_writes a s ++ arrayLocs frame_1_arrays a s ++ staticLocs frame_1_statics s) 600000 7302250) := by
  intro l hflags _ _ p e ha hc hk s m args below hf hfit hheap happ hpre
  obtain ⟨k, o, h1, h2, h3, rfl, hF⟩ := lw_comes l hflags p e ha hc hk s m args below hf hfit hheap happ hpre
  exact ⟨k, _, h1, h2, h3, hL args s _, lw_frame hF⟩
theorem i_vc : Claimed_1_1 ∧ Claimed_1_2 := ⟨lw_limb limb_1_1 (fun args s t => by simp [limb_1_1, Cond.after, Cond.holds, Cond.value]), lw_limb limb_1_2 (fun args s t => Cond.after_iff.mpr (by
  first | (rw [show limb_1_2 = Cond.eq .result (.int 1) from rfl, Cond.eq_ints (x := 1) (y := 1) rfl rfl]; simp; done) | (simp [limb_1_2, Cond.value, Term.eval]; done)))⟩
