/-! part 99pa1: an array of four arrays of forty ints, at the machine -/
def mmI (cC : ClassId) : Cell := { cls := cC, slots := Array.replicate 40 (.int 0), vm := .none }
def mmO (cA : ClassId) : Cell := { cls := cA, slots := Array.replicate 4 .null, vm := .none }
/-- one more inner array, and place i of the outer one (it lies at a) leads to it -/
def mmT (S : State) (a : Nat) (o : Cell) (cC : ClassId) (i : Nat) : State := (S.pushCell (mmI cC)).setCell a (o.setSlot i (.ref S.heap.size))
theorem mmT_f {S : State} {a i : Nat} {o : Cell} {cC : ClassId} (ho : S.heap[a]? = some o) : (mmT S a o cC i).heap.size = S.heap.size + 1 ∧ (mmT S a o cC i).heap[a]? = some (o.setSlot i (.ref S.heap.size)) ∧ (mmT S a o cC i).heap[S.heap.size]? = some (mmI cC) ∧ (∀ q : Nat, q < S.heap.size → q ≠ a → (mmT S a o cC i).heap[q]? = S.heap[q]?) ∧ (mmT S a o cC i).vm = S.vm ∧ (mmT S a o cC i).slotsUsed = S.slotsUsed + 40 := by
  have hlt : a < S.heap.size := (Array.getElem?_eq_some_iff.mp ho).1
  have h1 : (S.pushCell (mmI cC)).heap[a]? = some o := by rw [State.heap_pushCell_of_lt (h := hlt)]; exact ho
  refine ⟨by simp [mmT, State.setCell], State.heap_setCell_self h1, ?_, fun q hq hne => ?_, by simp [mmT], by simp [mmT, mmI]⟩
  · show ((S.pushCell (mmI cC)).setCell a _).heap[S.heap.size]? = _
    rw [State.heap_setCell_other (show a ≠ S.heap.size by omega)]
    exact State.heap_pushCell_size _ _
  · show ((S.pushCell (mmI cC)).setCell a _).heap[q]? = _
    rw [State.heap_setCell_other (fun z => hne z.symm), State.heap_pushCell_of_lt (h := hq)]
theorem mm_new {E : CtlPost} {e : Env} {d : Bool} {acts : List Action} {s : State} {cC cc : ClassId} {k : Class} {ty : FieldType} {n : Nat} {v : Value} (hk : s.vm.classes[cC]? = some k) (hkind : k.kind = .array cc ty) (h1 : ¬ n > e.platform.arrayLengthLimit) (h2 : ¬ n * componentBytes ty > e.platform.maxHeapBytes) (hf : fits ty v = true) (hd : v.isDefault = true) (h3 : s.heap.size < e.platform.maxCells) (h4 : s.slotsUsed + n ≤ e.platform.maxSlots) {Q : Addr → Pre} (hq : Q s.heap.size d acts (s.pushCell { cls := cC, slots := Array.replicate n v, vm := .none })) : wp (Jvm.newArray cC n v) Q E e d acts s := by
  have hall : (Array.replicate n v).all (fun x => x.isDefault) = true := by
    rw [Array.all_replicate]
    split <;> simp [hd]
  have hacts : allocActs (Array.replicate n v) s.heap.size acts = acts := by
    unfold allocActs
    exact if_pos hall
  have hslots : ∀ i w, (Array.replicate n v)[i]? = some w → s.fitsSlot cC .none i w = true := fun i w hw => by
    rw [Array.getElem?_replicate] at hw
    by_cases q : i < n
    · rw [if_pos q] at hw
      cases hw
      simp [State.fitsSlot, State.slotType?, hk, hkind, hf]
    · rw [if_neg q] at hw
      cases hw
  simp only [Jvm.newArray, Jvm.arrayFits, wp_bind', W.ask, W.ite, h1, h2, if_false, wp_pure', W.theClass, hk, hkind, W.alloc, W.stop, Option.some.injEq, exists_eq_left', Array.size_replicate, hacts]
  rw [if_neg (by omega)]
  exact ⟨h3, h4, hslots, hq⟩
theorem mm_stT {p : Program} {l : Launch} {e : Env} {R : Room} {s : State} {m : MethodId} {args : Array Value} {below : List Frame} {meth : Method} {c : Code} {S : State} {locs : List Loc} {cells slots : Nat} (X : Stand p l e R s m args below meth c S locs cells slots) {a i : Nat} {o : Cell} {cC : ClassId} (ho : S.heap[a]? = some o) : Stand p l e R s m args below meth c (mmT S a o cC i) (locs ++ [⟨a, i⟩]) (cells + 1) (slots + 40) := by
  have hlt : a < S.heap.size := (Array.getElem?_eq_some_iff.mp ho).1
  have h1 : (S.pushCell (mmI cC)).heap[a]? = some o := by rw [State.heap_pushCell_of_lt (h := hlt)]; exact ho
  have h := (X.pushed (mmI cC)).stored h1 i (.ref S.heap.size)
  have e1 : (mmI cC).slots.size = 40 := by simp [mmI]
  rw [e1] at h
  exact h
theorem mm_make {E : CtlPost} {e : Env} {d : Bool} {acts : List Action} {s : State} {cC cc : ClassId} {k : Class} (hk : s.vm.classes[cC]? = some k) (hkind : k.kind = .array cc .int) (h1 : ¬ 40 > e.platform.arrayLengthLimit) (h2 : ¬ 40 * 4 > e.platform.maxHeapBytes) (h3 : s.heap.size < e.platform.maxCells) (h4 : s.slotsUsed + 40 ≤ e.platform.maxSlots) {Q : Addr → Pre} (hq : Q s.heap.size d acts (s.pushCell (mmI cC))) : wp (Jvm.Op.multianewarray.make cC [40]) Q E e d acts s := by
  rw [Jvm.Op.multianewarray.make]
  simp only [wp_bind', W.ite, show ¬ ((40 : Int32) < 0) by decide, if_false, wp_pure', W.theClass, hk, hkind, Option.some.injEq, exists_eq_left', show (40 : Int32).toNatClampNeg = 40 by decide]
  exact mm_new hk hkind h1 h2 rfl rfl h3 h4 hq
def mm4 (S : State) (cA cC : ClassId) (a : Nat) : State := mmT (mmT (mmT (mmT (S.pushCell (mmO cA)) a (mmO cA) cC 0) a ((mmO cA).setSlot 0 (.ref (a + 1))) cC 1) a (((mmO cA).setSlot 0 (.ref (a + 1))).setSlot 1 (.ref (a + 2))) cC 2) a ((((mmO cA).setSlot 0 (.ref (a + 1))).setSlot 1 (.ref (a + 2))).setSlot 2 (.ref (a + 3))) cC 3
theorem mm_st {E : CtlPost} {e : Env} {d : Bool} {acts : List Action} {S : State} {cA cC cc : ClassId} {kA kC : Class} {a i z : Nat} {o : Cell} (hkA : S.vm.classes[cA]? = some kA) (hkindA : kA.kind = .array cC (.array .int)) (hk : S.vm.classes[cC]? = some kC) (hkind : kC.kind = .array cc .int) (h1 : ¬ 40 > e.platform.arrayLengthLimit) (h2 : ¬ 40 * 4 > e.platform.maxHeapBytes) (h3 : S.heap.size < e.platform.maxCells) (h4 : S.slotsUsed + 40 ≤ e.platform.maxSlots) (ho : S.heap[a]? = some o) (hoc : o.cls = cA ∧ o.vm = .none ∧ o.slots.size = 4) (hi : i < 4) (hz : S.heap.size = z) {Q : ForInStep PUnit → Pre} (hq : ∀ d' acts', Q (.yield ⟨⟩) d' acts' (mmT S a o cC i)) : wp (do let x ← Jvm.Op.multianewarray.make cC [40]; writeLoc a i (.ref x); Pure.pure (ForInStep.yield PUnit.unit)) Q E e d acts S := by
  have hlt : a < S.heap.size := (Array.getElem?_eq_some_iff.mp ho).1
  simp only [wp_bind']
  refine mm_make hk hkind h1 h2 h3 h4 ?_
  simp only [wp_bind', W.writeLoc, wp_pure']
  refine ⟨o, by rw [State.heap_pushCell_of_lt (h := hlt)]; exact ho, by rw [hoc.2.1]; simp, by rw [hoc.2.2]; exact hi, ?_, hq _ _⟩
  rw [hoc.1, hoc.2.1]
  simp [State.fitsSlot, State.slotType?, hkA, hkindA, fits]
theorem mm_0 (S : State) (cA : ClassId) : (S.pushCell (mmO cA)).heap.size = S.heap.size + 1 ∧ (S.pushCell (mmO cA)).heap[S.heap.size]? = some (mmO cA) ∧ (S.pushCell (mmO cA)).vm = S.vm ∧ (S.pushCell (mmO cA)).slotsUsed = S.slotsUsed + 4 := ⟨by simp, State.heap_pushCell_size _ _, by simp, by simp [mmO]⟩
theorem mmO_set {cA : ClassId} {o : Cell} {i : Nat} {v : Value} (h : o.cls = cA ∧ o.vm = .none ∧ o.slots.size = 4) : (o.setSlot i v).cls = cA ∧ (o.setSlot i v).vm = .none ∧ (o.setSlot i v).slots.size = 4 := by
  refine ⟨?_, ?_, ?_⟩
  · simp [Cell.setSlot, h.1]
  · simp [Cell.setSlot, h.2.1]
  · simp [Cell.setSlot, h.2.2]
/-- the model's make, at 4 and 40 -/
theorem mm_make2 {E : CtlPost} {e : Env} {d : Bool} {acts : List Action} {S : State} {cA cC cc : ClassId} {kA kC : Class} (hkA : S.vm.classes[cA]? = some kA) (hkindA : kA.kind = .array cC (.array .int)) (hk : S.vm.classes[cC]? = some kC) (hkind : kC.kind = .array cc .int) (h1 : ¬ 40 > e.platform.arrayLengthLimit) (h2 : ¬ 40 * 4 > e.platform.maxHeapBytes) (h3 : S.heap.size + 5 ≤ e.platform.maxCells) (h4 : S.slotsUsed + 164 ≤ e.platform.maxSlots) {Q : Addr → Pre} (hq : ∀ d' acts', Q S.heap.size d' acts' (mm4 S cA cC S.heap.size)) : wp (Jvm.Op.multianewarray.make cA [4, 40]) Q E e d acts S := by
  rw [Jvm.Op.multianewarray.make]
  simp only [wp_bind', W.ite, show ¬ ((4 : Int32) < 0) by decide, if_false, wp_pure', W.theClass, hkA, hkindA, Option.some.injEq, exists_eq_left', show (4 : Int32).toNatClampNeg = 4 by decide]
  refine mm_new hkA hkindA (by omega) (show ¬ 4 * 4 > _ by omega) rfl rfl (by omega) (by omega) ?_
  simp only [show ((4 : Int32) == 0) = false by decide, Bool.false_eq_true, if_false, Std.Legacy.Range.forIn_eq_forIn_range']
  rw [show ([:4] : Std.Legacy.Range).size = 4 by decide]
  rw [show List.range' ([:4] : Std.Legacy.Range).start 4 ([:4] : Std.Legacy.Range).step = [0, 1, 2, 3] from rfl]
  simp only [List.forIn_cons, List.forIn_nil]
  obtain ⟨z1, z2, z3, z4⟩ := mm_0 S cA
  have oc0 : (mmO cA).cls = cA ∧ (mmO cA).vm = .none ∧ (mmO cA).slots.size = 4 := ⟨rfl, rfl, by simp [mmO]⟩
  have oc1 := mmO_set (i := 0) (v := .ref (S.heap.size + 1)) oc0
  have oc2 := mmO_set (i := 1) (v := .ref (S.heap.size + 2)) oc1
  have oc3 := mmO_set (i := 2) (v := .ref (S.heap.size + 3)) oc2
  obtain ⟨a1, a2, a3, a4, a5, a6⟩ := mmT_f (i := 0) (cC := cC) z2
  rw [z1] at a1 a2
  generalize hS1 : mmT (S.pushCell (mmO cA)) S.heap.size (mmO cA) cC 0 = S1 at a1 a2 a3 a4 a5 a6
  obtain ⟨b1, b2, b3, b4, b5, b6⟩ := mmT_f (i := 1) (cC := cC) a2
  rw [a1] at b1 b2
  generalize hS2 : mmT S1 S.heap.size ((mmO cA).setSlot 0 (.ref (S.heap.size + 1))) cC 1 = S2 at b1 b2 b3 b4 b5 b6
  obtain ⟨c1, c2, c3, c4, c5, c6⟩ := mmT_f (i := 2) (cC := cC) b2
  rw [b1] at c1 c2
  generalize hS3 : mmT S2 S.heap.size (((mmO cA).setSlot 0 (.ref (S.heap.size + 1))).setSlot 1 (.ref (S.heap.size + 2))) cC 2 = S3 at c1 c2 c3 c4 c5 c6
  rw [wp_bind', wp_bind']
  refine mm_st (S := S.pushCell (mmO cA)) (cA := cA) (by rw [z3]; exact hkA) hkindA (by rw [z3]; exact hk) hkind h1 h2 (by omega) (by omega) z2 oc0 (by omega) rfl (fun d1 acts1 => ?_)
  rw [hS1]
  show wp _ _ E e d1 acts1 S1
  dsimp only
  rw [wp_bind']
  refine mm_st (S := S1) (cA := cA) (by rw [a5, z3]; exact hkA) hkindA (by rw [a5, z3]; exact hk) hkind h1 h2 (by omega) (by omega) a2 oc1 (by omega) rfl (fun d2 acts2 => ?_)
  rw [hS2]
  dsimp only
  rw [wp_bind']
  refine mm_st (S := S2) (cA := cA) (by rw [b5, a5, z3]; exact hkA) hkindA (by rw [b5, a5, z3]; exact hk) hkind h1 h2 (by omega) (by omega) b2 oc2 (by omega) rfl (fun d3 acts3 => ?_)
  rw [hS3]
  dsimp only
  rw [wp_bind']
  refine mm_st (S := S3) (cA := cA) (by rw [c5, b5, a5, z3]; exact hkA) hkindA (by rw [c5, b5, a5, z3]; exact hk) hkind h1 h2 (by omega) (by omega) c2 oc3 (by omega) rfl (fun d4 acts4 => ?_)
  dsimp only
  simp only [wp_pure']
  have h9 := hq d4 acts4
  unfold mm4 at h9
  rw [hS1, hS2, hS3] at h9
  exact h9
theorem mmT_top (S : State) (f : JFrame) (a : Nat) (o : Cell) (cC : ClassId) (i : Nat) : mmT (S.setTop f) a o cC i = (mmT S a o cC i).setTop f := by simp only [mmT, State.heap_setTop, State.pushCell_setTop, State.setCell_setTop]
theorem mm4_top (S : State) (f : JFrame) (cA cC : ClassId) (a : Nat) : mm4 (S.setTop f) cA cC a = (mm4 S cA cC a).setTop f := by simp only [mm4, State.pushCell_setTop, mmT_top]
/-- the outer array at the end -/
def mmF (cA : ClassId) (a : Nat) : Cell := ((((mmO cA).setSlot 0 (.ref (a + 1))).setSlot 1 (.ref (a + 2))).setSlot 2 (.ref (a + 3))).setSlot 3 (.ref (a + 4))
theorem mm4_f (S : State) (cA cC : ClassId) {a : Nat} (ha : S.heap.size = a) : (mm4 S cA cC a).heap.size = a + 5 ∧ (mm4 S cA cC a).heap[a]? = some (mmF cA a) ∧ (∀ j, j < 4 → (mm4 S cA cC a).heap[a + 1 + j]? = some (mmI cC)) ∧ (∀ q : Nat, q < a → (mm4 S cA cC a).heap[q]? = S.heap[q]?) := by
  subst ha
  obtain ⟨z1, z2, z3, z4⟩ := mm_0 S cA
  have z5 : ∀ q : Nat, q < S.heap.size → (S.pushCell (mmO cA)).heap[q]? = S.heap[q]? := fun q hq => State.heap_pushCell_of_lt _ _ hq
  obtain ⟨a1, a2, a3, a4, a5, a6⟩ := mmT_f (i := 0) (cC := cC) z2
  rw [z1] at a1 a2 a3 a4
  unfold mm4
  generalize mmT (S.pushCell (mmO cA)) S.heap.size (mmO cA) cC 0 = S1 at *
  obtain ⟨b1, b2, b3, b4, b5, b6⟩ := mmT_f (i := 1) (cC := cC) a2
  rw [a1] at b1 b2 b3 b4
  generalize mmT S1 S.heap.size ((mmO cA).setSlot 0 (.ref (S.heap.size + 1))) cC 1 = S2 at *
  obtain ⟨c1, c2, c3, c4, c5, c6⟩ := mmT_f (i := 2) (cC := cC) b2
  rw [b1] at c1 c2 c3 c4
  generalize mmT S2 S.heap.size (((mmO cA).setSlot 0 (.ref (S.heap.size + 1))).setSlot 1 (.ref (S.heap.size + 2))) cC 2 = S3 at *
  obtain ⟨d1, d2, d3, d4, d5, d6⟩ := mmT_f (i := 3) (cC := cC) c2
  rw [c1] at d1 d2 d3 d4
  refine ⟨d1, d2, fun j hj => ?_, fun q hq => ?_⟩
  · rcases (show j = 0 ∨ j = 1 ∨ j = 2 ∨ j = 3 by omega) with rfl | rfl | rfl | rfl
    · rw [d4 _ (by omega) (by omega), c4 _ (by omega) (by omega), b4 _ (by omega) (by omega)]; exact a3
    · rw [d4 _ (by omega) (by omega), c4 _ (by omega) (by omega)]; exact b3
    · rw [d4 _ (by omega) (by omega)]; exact c3
    · exact d3
  · rw [d4 _ (by omega) (by omega), c4 _ (by omega) (by omega), b4 _ (by omega) (by omega), a4 _ (by omega) (by omega), z5 q hq]
theorem mm_stand {p : Program} {l : Launch} {e : Env} {R : Room} {s : State} {m : MethodId} {args : Array Value} {below : List Frame} {meth : Method} {c : Code} {T : State} {locs : List Loc} {cells slots : Nat} (X : Stand p l e R s m args below meth c T locs cells slots) (cA cC : ClassId) : Stand p l e R s m args below meth c (mm4 T cA cC T.heap.size) (locs ++ [⟨T.heap.size, 0⟩] ++ [⟨T.heap.size, 1⟩] ++ [⟨T.heap.size, 2⟩] ++ [⟨T.heap.size, 3⟩]) (cells + 5) (slots + 164) := by
  obtain ⟨z1, z2, z3, z4⟩ := mm_0 T cA
  have X0 := X.pushed (mmO cA)
  have e0 : (mmO cA).slots.size = 4 := by simp [mmO]
  rw [e0] at X0
  obtain ⟨a1, a2, -⟩ := mmT_f (i := 0) (cC := cC) z2
  rw [z1] at a1 a2
  have X1 := mm_stT X0 (i := 0) (cC := cC) z2
  obtain ⟨b1, b2, -⟩ := mmT_f (i := 1) (cC := cC) a2
  rw [a1] at b1 b2
  have X2 := mm_stT X1 (i := 1) (cC := cC) a2
  obtain ⟨c1, c2, -⟩ := mmT_f (i := 2) (cC := cC) b2
  rw [b1] at c1 c2
  have X3 := mm_stT X2 (i := 2) (cC := cC) b2
  exact mm_stT X3 (i := 3) (cC := cC) c2
theorem mm_step {p : Program} {l : Launch} {e : Env} {R : Room} {s : State} {m : MethodId} {args : Array Value} {below : List Frame} {meth : Method} {c : Code} {T : State} {locs : List Loc} {cells slots : Nat} {b : ByteArray} {own : String} {ix pc : Nat} {ls : Array Slot} {rest : List Value} {cA cC cc : ClassId} {kA kC : Class} (X : Stand p l e R s m args below meth c T locs cells slots) (hexec : p.tables.exec = Jvm.exec) (hb : c.code = b) (hown : s.vm.findClass own = some m.cls) (hlk : (Jvm.Cond.classLink own ix "[[I").before args s = true) (h1 : s.vm.findClass "[[I" = some cA) (h3 : s.vm.classes[cA]? = some kA) (h4 : kA.kind = .array cC (.array .int)) (h5 : s.vm.classes[cC]? = some kC) (h6 : kC.kind = .array cc .int) (hd : decode b pc = .ok (.multianewarray ix 2, 4)) (hce : cells + 5 ≤ R.cells) (hsl : slots + 164 ≤ R.slots) :
    ∃ vm1 : Vm, s.WarmedH vm1 ∧ Stand p l e R s m args below meth c (mm4 (T.setVm vm1) cA cC T.heap.size) (locs ++ [⟨T.heap.size, 0⟩] ++ [⟨T.heap.size, 1⟩] ++ [⟨T.heap.size, 2⟩] ++ [⟨T.heap.size, 3⟩]) (cells + 5) (slots + 164) ∧ ∀ target, Steps p.tables e below ((mm4 (T.setVm vm1) cA cC T.heap.size).setTop (F0 m (pc + 4) ls (.ref T.heap.size :: rest))) target → Steps p.tables e below (T.setTop (F0 m pc ls (.int 40 :: .int 4 :: rest))) target := by
  have hpl : e.platform.magicAccessors = ({} : Platform).magicAccessors := by rw [X.admits.platform]
  obtain ⟨c0, hc0, hcl⟩ := Cond.classLink_spec hown hlk e.platform hpl
  obtain rfl : c0 = cA := Option.some.inj (hc0.symm.trans h1)
  obtain ⟨g1, w1, r1⟩ := State.classEntry (e := e) X.warmed hcl
  generalize T.vm.noted m.cls ix (.cls c0) = vm1 at g1 w1 r1
  have hal : s.vm.Alike vm1 := w1.alike
  obtain ⟨kA', f1, f2⟩ := hal.2.2 _ _ h3
  obtain ⟨kC', f3, f4⟩ := hal.2.2 _ _ h5
  have X1 := X.noted w1
  have XF := mm_stand X1 c0 cC
  obtain ⟨rm1, rm2⟩ := X.roomAbove hce hsl
  refine ⟨vm1, w1, XF, fun target hrest => ?_⟩
  have p1 : ¬ 40 > e.platform.arrayLengthLimit := by rw [Launch.admits_arrayLengthLimit X.admits]; omega
  have p2 : ¬ 40 * 4 > e.platform.maxHeapBytes := by rw [Launch.admits_maxHeapBytes X.admits]; omega
  generalize hg : F0 m pc ls (.int 40 :: .int 4 :: rest) = g
  have hgm : g.method = m := by rw [← hg]
  have hgp : g.pc = pc := by rw [← hg]
  have hgs : g.stack = .int 40 :: .int 4 :: rest := by rw [← hg]
  have hdg : decode c.code g.pc = .ok (.multianewarray ix 2, 4) := by rw [hb, hgp]; exact hd
  subst hgm
  jvm_step X.here [hexec, hdg]
  simp only [Jvm.Op.multianewarray.sem, wp_bind', W.resolveClassAt_links (State.method?_setTop g X.here.top) g1]
  rw [W.popN, if_neg (by decide)]
  refine ⟨g, State.topJava?_setTop' (s := T.setVm vm1) g X.here.top, [.int 4, .int 40], rest, rfl, hgs, ?_⟩
  simp only [List.mapM_cons, List.mapM_nil, wp_bind', wp_pure']
  have same : ((T.setTop g).setVm vm1).setTop { g with stack := rest } = (T.setVm vm1).setTop { g with stack := rest } := State.setTop_setTop (s := T.setVm vm1) ..
  rw [same]
  refine mm_make2 (S := (T.setVm vm1).setTop { g with stack := rest }) (kA := kA') (kC := kC') f1 (by rw [f2]; exact h4) f3 (by rw [f4]; exact h6) p1 p2 (by show T.heap.size + 5 ≤ _; omega) (by show T.slotsUsed + 164 ≤ _; omega) (fun d' acts' => ?_)
  rw [mm4_top]
  simp only [wp_bind', W.mark, W.pushRef, State.topJava?_setTop' _ XF.here.top, Option.some.injEq, exists_eq_left', State.setTop_setTop, State.heap_setTop]
  intro acts
  simp [jvm, XF.here.top]
  rw [← hg] at *
  exact hrest
