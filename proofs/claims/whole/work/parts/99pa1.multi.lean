/-! part 99pa1: an array of four arrays of forty ints, at the machine -/
def mmI (cC : ClassId) : Cell := { cls := cC, slots := Array.replicate 40 (.int 0), vm := .none }
def mmO (cA : ClassId) : Cell := { cls := cA, slots := Array.replicate 4 .null, vm := .none }
/-- one more inner array, and place i of the outer one (it lies at a) leads to it -/
def mmT (S : State) (a : Nat) (o : Cell) (cC : ClassId) (i : Nat) : State := (S.pushCell (mmI cC)).setCell a (o.setSlot i (.ref S.heap.size))
theorem mmT_f {S : State} {a i : Nat} {o : Cell} {cC : ClassId} (ho : S.heap[a]? = some o) : (mmT S a o cC i).heap.size = S.heap.size + 1 ∧ (mmT S a o cC i).heap[a]? = some (o.setSlot i (.ref S.heap.size)) ∧ (mmT S a o cC i).heap[S.heap.size]? = some (mmI cC) ∧ (∀ q : Nat, q < S.heap.size → q ≠ a → (mmT S a o cC i).heap[q]? = S.heap[q]?) ∧ (mmT S a o cC i).vm = S.vm ∧ (mmT S a o cC i).slotsUsed = S.slotsUsed + 40 := by
  have hlt : a < S.heap.size := (Array.getElem?_eq_some_iff.mp ho).1
  have h1 : (S.pushCell (mmI cC)).heap[a]? = some o := by rw [State.heap_pushCell_of_lt (h := hlt)]; exact ho
  refine ⟨by simp [mmT, State.setCell], State.heap_setCell_self h1, ?_, fun q hq hne => ?_, by simp [mmT], by simp [mmT, mmI]⟩
  · show ((S.pushCell (mmI cC)).setCell a _).heap[S.heap.size]? = _
    rw [State.heap_setCell_other (show a ≠ S.heap.size by omega)]
    exact State.heap_pushCell_size _ _
  · show ((S.pushCell (mmI cC)).setCell a _).heap[q]? = _
    rw [State.heap_setCell_other (fun z => hne z.symm), State.heap_pushCell_of_lt (h := hq)]
theorem mm_new {E : CtlPost} {e : Env} {d : Bool} {acts : List Action} {s : State} {cC cc : ClassId} {k : Class} {ty : FieldType} {n : Nat} {v : Value} (hk : s.vm.classes[cC]? = some k) (hkind : k.kind = .array cc ty) (h1 : ¬ n > e.platform.arrayLengthLimit) (h2 : ¬ n * componentBytes ty > e.platform.maxHeapBytes) (hf : fits ty v = true) (hd : v.isDefault = true) (h3 : s.heap.size < e.platform.maxCells) (h4 : s.slotsUsed + n ≤ e.platform.maxSlots) {Q : Addr → Pre} (hq : Q s.heap.size d acts (s.pushCell { cls := cC, slots := Array.replicate n v, vm := .none })) : wp (Jvm.newArray cC n v) Q E e d acts s := by
  have hall : (Array.replicate n v).all (fun x => x.isDefault) = true := by
    rw [Array.all_replicate]
    split <;> simp [hd]
  have hacts : allocActs (Array.replicate n v) s.heap.size acts = acts := by
    unfold allocActs
    exact if_pos hall
  have hslots : ∀ i w, (Array.replicate n v)[i]? = some w → s.fitsSlot cC .none i w = true := fun i w hw => by
    rw [Array.getElem?_replicate] at hw
    by_cases q : i < n
    · rw [if_pos q] at hw
      cases hw
      simp [State.fitsSlot, State.slotType?, hk, hkind, hf]
    · rw [if_neg q] at hw
      cases hw
  simp only [Jvm.newArray, Jvm.arrayFits, wp_bind', W.ask, W.ite, h1, h2, if_false, wp_pure', W.theClass, hk, hkind, W.alloc, W.stop, Option.some.injEq, exists_eq_left', Array.size_replicate, hacts]
  rw [if_neg (by omega)]
  exact ⟨h3, h4, hslots, hq⟩
theorem mm_stT {p : Program} {l : Launch} {e : Env} {R : Room} {s : State} {m : MethodId} {args : Array Value} {below : List Frame} {meth : Method} {c : Code} {S : State} {locs : List Loc} {cells slots : Nat} (X : Stand p l e R s m args below meth c S locs cells slots) {a i : Nat} {o : Cell} {cC : ClassId} (ho : S.heap[a]? = some o) : Stand p l e R s m args below meth c (mmT S a o cC i) (locs ++ [⟨a, i⟩]) (cells + 1) (slots + 40) := by
  have hlt : a < S.heap.size := (Array.getElem?_eq_some_iff.mp ho).1
  have h1 : (S.pushCell (mmI cC)).heap[a]? = some o := by rw [State.heap_pushCell_of_lt (h := hlt)]; exact ho
  have h := (X.pushed (mmI cC)).stored h1 i (.ref S.heap.size)
  have e1 : (mmI cC).slots.size = 40 := by simp [mmI]
  rw [e1] at h
  exact h
theorem mm_make {E : CtlPost} {e : Env} {d : Bool} {acts : List Action} {s : State} {cC cc : ClassId} {k : Class} (hk : s.vm.classes[cC]? = some k) (hkind : k.kind = .array cc .int) (h1 : ¬ 40 > e.platform.arrayLengthLimit) (h2 : ¬ 40 * 4 > e.platform.maxHeapBytes) (h3 : s.heap.size < e.platform.maxCells) (h4 : s.slotsUsed + 40 ≤ e.platform.maxSlots) {Q : Addr → Pre} (hq : Q s.heap.size d acts (s.pushCell (mmI cC))) : wp (Jvm.Op.multianewarray.make cC [40]) Q E e d acts s := by
  rw [Jvm.Op.multianewarray.make]
  simp only [wp_bind', W.ite, show ¬ ((40 : Int32) < 0) by decide, if_false, wp_pure', W.theClass, hk, hkind, Option.some.injEq, exists_eq_left', show (40 : Int32).toNatClampNeg = 40 by decide]
  exact mm_new hk hkind h1 h2 rfl rfl h3 h4 hq
def mm4 (S : State) (cA cC : ClassId) (a : Nat) : State := mmT (mmT (mmT (mmT (S.pushCell (mmO cA)) a (mmO cA) cC 0) a ((mmO cA).setSlot 0 (.ref (a + 1))) cC 1) a (((mmO cA).setSlot 0 (.ref (a + 1))).setSlot 1 (.ref (a + 2))) cC 2) a ((((mmO cA).setSlot 0 (.ref (a + 1))).setSlot 1 (.ref (a + 2))).setSlot 2 (.ref (a + 3))) cC 3
theorem mm_st {E : CtlPost} {e : Env} {d : Bool} {acts : List Action} {S : State} {cA cC cc : ClassId} {kA kC : Class} {a i z : Nat} {o : Cell} (hkA : S.vm.classes[cA]? = some kA) (hkindA : kA.kind = .array cC (.array .int)) (hk : S.vm.classes[cC]? = some kC) (hkind : kC.kind = .array cc .int) (h1 : ¬ 40 > e.platform.arrayLengthLimit) (h2 : ¬ 40 * 4 > e.platform.maxHeapBytes) (h3 : S.heap.size < e.platform.maxCells) (h4 : S.slotsUsed + 40 ≤ e.platform.maxSlots) (ho : S.heap[a]? = some o) (hoc : o.cls = cA ∧ o.vm = .none ∧ o.slots.size = 4) (hi : i < 4) (hz : S.heap.size = z) {Q : ForInStep PUnit → Pre} (hq : ∀ d' acts', Q (.yield ⟨⟩) d' acts' (mmT S a o cC i)) : wp (do let x ← Jvm.Op.multianewarray.make cC [40]; writeLoc a i (.ref x); Pure.pure (ForInStep.yield PUnit.unit)) Q E e d acts S := by
  have hlt : a < S.heap.size := (Array.getElem?_eq_some_iff.mp ho).1
  simp only [wp_bind']
  refine mm_make hk hkind h1 h2 h3 h4 ?_
  simp only [wp_bind', W.writeLoc, wp_pure']
  refine ⟨o, by rw [State.heap_pushCell_of_lt (h := hlt)]; exact ho, by rw [hoc.2.1]; simp, by rw [hoc.2.2]; exact hi, ?_, hq _ _⟩
  rw [hoc.1, hoc.2.1]
  simp [State.fitsSlot, State.slotType?, hkA, hkindA, fits]
theorem mm_0 (S : State) (cA : ClassId) : (S.pushCell (mmO cA)).heap.size = S.heap.size + 1 ∧ (S.pushCell (mmO cA)).heap[S.heap.size]? = some (mmO cA) ∧ (S.pushCell (mmO cA)).vm = S.vm ∧ (S.pushCell (mmO cA)).slotsUsed = S.slotsUsed + 4 := ⟨by simp, State.heap_pushCell_size _ _, by simp, by simp [mmO]⟩
theorem mmO_set {cA : ClassId} {o : Cell} {i : Nat} {v : Value} (h : o.cls = cA ∧ o.vm = .none ∧ o.slots.size = 4) : (o.setSlot i v).cls = cA ∧ (o.setSlot i v).vm = .none ∧ (o.setSlot i v).slots.size = 4 := by
  refine ⟨?_, ?_, ?_⟩
  · simp [Cell.setSlot, h.1]
  · simp [Cell.setSlot, h.2.1]
  · simp [Cell.setSlot, h.2.2]
/-- the model's make, at 4 and 40 -/
theorem mm_make2 {E : CtlPost} {e : Env} {d : Bool} {acts : List Action} {S : State} {cA cC cc : ClassId} {kA kC : Class} (hkA : S.vm.classes[cA]? = some kA) (hkindA : kA.kind = .array cC (.array .int)) (hk : S.vm.classes[cC]? = some kC) (hkind : kC.kind = .array cc .int) (h1 : ¬ 40 > e.platform.arrayLengthLimit) (h2 : ¬ 40 * 4 > e.platform.maxHeapBytes) (h3 : S.heap.size + 5 ≤ e.platform.maxCells) (h4 : S.slotsUsed + 164 ≤ e.platform.maxSlots) {Q : Addr → Pre} (hq : ∀ d' acts', Q S.heap.size d' acts' (mm4 S cA cC S.heap.size)) : wp (Jvm.Op.multianewarray.make cA [4, 40]) Q E e d acts S := by
  rw [Jvm.Op.multianewarray.make]
  simp only [wp_bind', W.ite, show ¬ ((4 : Int32) < 0) by decide, if_false, wp_pure', W.theClass, hkA, hkindA, Option.some.injEq, exists_eq_left', show (4 : Int32).toNatClampNeg = 4 by decide]
  refine mm_new hkA hkindA (by omega) (show ¬ 4 * 4 > _ by omega) rfl rfl (by omega) (by omega) ?_
  simp only [show ((4 : Int32) == 0) = false by decide, Bool.false_eq_true, if_false, Std.Legacy.Range.forIn_eq_forIn_range']
  rw [show ([:4] : Std.Legacy.Range).size = 4 by decide]
  rw [show List.range' ([:4] : Std.Legacy.Range).start 4 ([:4] : Std.Legacy.Range).step = [0, 1, 2, 3] from rfl]
  simp only [List.forIn_cons, List.forIn_nil]
  obtain ⟨z1, z2, z3, z4⟩ := mm_0 S cA
  have oc0 : (mmO cA).cls = cA ∧ (mmO cA).vm = .none ∧ (mmO cA).slots.size = 4 := ⟨rfl, rfl, by simp [mmO]⟩
  have oc1 := mmO_set (i := 0) (v := .ref (S.heap.size + 1)) oc0
  have oc2 := mmO_set (i := 1) (v := .ref (S.heap.size + 2)) oc1
  have oc3 := mmO_set (i := 2) (v := .ref (S.heap.size + 3)) oc2
  obtain ⟨a1, a2, a3, a4, a5, a6⟩ := mmT_f (i := 0) (cC := cC) z2
  rw [z1] at a1 a2
  generalize hS1 : mmT (S.pushCell (mmO cA)) S.heap.size (mmO cA) cC 0 = S1 at a1 a2 a3 a4 a5 a6
  obtain ⟨b1, b2, b3, b4, b5, b6⟩ := mmT_f (i := 1) (cC := cC) a2
  rw [a1] at b1 b2
  generalize hS2 : mmT S1 S.heap.size ((mmO cA).setSlot 0 (.ref (S.heap.size + 1))) cC 1 = S2 at b1 b2 b3 b4 b5 b6
  obtain ⟨c1, c2, c3, c4, c5, c6⟩ := mmT_f (i := 2) (cC := cC) b2
  rw [b1] at c1 c2
  generalize hS3 : mmT S2 S.heap.size (((mmO cA).setSlot 0 (.ref (S.heap.size + 1))).setSlot 1 (.ref (S.heap.size + 2))) cC 2 = S3 at c1 c2 c3 c4 c5 c6
  rw [wp_bind', wp_bind']
  refine mm_st (S := S.pushCell (mmO cA)) (cA := cA) (by rw [z3]; exact hkA) hkindA (by rw [z3]; exact hk) hkind h1 h2 (by omega) (by omega) z2 oc0 (by omega) rfl (fun d1 acts1 => ?_)
  rw [hS1]
  show wp _ _ E e d1 acts1 S1
  dsimp only
  rw [wp_bind']
  refine mm_st (S := S1) (cA := cA) (by rw [a5, z3]; exact hkA) hkindA (by rw [a5, z3]; exact hk) hkind h1 h2 (by omega) (by omega) a2 oc1 (by omega) rfl (fun d2 acts2 => ?_)
  rw [hS2]
  dsimp only
  rw [wp_bind']
  refine mm_st (S := S2) (cA := cA) (by rw [b5, a5, z3]; exact hkA) hkindA (by rw [b5, a5, z3]; exact hk) hkind h1 h2 (by omega) (by omega) b2 oc2 (by omega) rfl (fun d3 acts3 => ?_)
  rw [hS3]
  dsimp only
  rw [wp_bind']
  refine mm_st (S := S3) (cA := cA) (by rw [c5, b5, a5, z3]; exact hkA) hkindA (by rw [c5, b5, a5, z3]; exact hk) hkind h1 h2 (by omega) (by omega) c2 oc3 (by omega) rfl (fun d4 acts4 => ?_)
  dsimp only
  simp only [wp_pure']
  have h9 := hq d4 acts4
  unfold mm4 at h9
  rw [hS1, hS2, hS3] at h9
  exact h9
