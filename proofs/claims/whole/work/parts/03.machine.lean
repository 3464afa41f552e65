/-! part 03: the store of the fixed world, contracts C, the judgement G -/
abbrev Hp : Type := Nat → Nat → Int32
/-- the store, but x at slot k of cell a -/
def wr (h : Hp) (a k : Nat) (x : Int32) : Hp := fun c j => if c = a ∧ j = k then x else h c j
/-- the one long field lies in slots 100 and 101 of its cell -/
def rdL (f : Nat → Int32) : Int64 := Int64.ofInt ((f 100).toInt * 4294967296 + ((f 101).toInt + 2147483648))
def wrL (h : Hp) (a : Nat) (x : Int64) : Hp := wr (wr h a 100 (Int32.ofInt (x.toInt / 4294967296))) a 101 (Int32.ofInt (x.toInt % 4294967296 - 2147483648))
abbrev GY : Type := (Nat → Nat) × va_G × (Nat → ClassId)
def cz (ad : Nat → Nat) : Value → Value
  | .int x => .int x
  | .long x => .long x
  | .float x => .float x
  | .double x => .double x
  | .null => .null
  | .ref a => .ref (ad a)
  | .retAddr x => .retAddr x
def fval (ad : Nat → Nat) (c ci : Nat) (f : Nat → Int32) (k : Nat) : Value := match (fk ci k).1 with
  | 0 => .int (f k)
  | 4 => .int (f k)
  | 1 => .long (rdL f)
  | 2 => .ref (ad (c + (fk ci k).2))
  | _ => .ref (ad (fk ci k).2)
def flds (ad : Nat → Nat) (c ci : Nat) (f : Nat → Int32) : List Value := (List.range (fnF ci)).map (fval ad c ci f)
def cellE (Y : GY) (c : Nat) (f : Nat → Int32) : va_E := match (sh c).1 with
  | 0 => .inl (Y.2.2 0, (sh c).2, .inl f)
  | 1 => .inr ((sh c).2, flds Y.1 c (sh c).2 f)
  | _ => .inl (Y.2.2 (1 + (sh c).2), rl (sh c).2, .inr (.inr (.inr (.inr (fun i => some (Y.1 (re (sh c).2 i)))))))
def wsW (Y : GY) (h : Hp) : va_W := (List.range NW).map (fun c => (Y.1 c, cellE Y c (h c)))
def tysW (Y : GY) : List (ClassId × FieldType) := [(Y.2.2 0, .int), (Y.2.2 1, .object "PlayedTruth$Moment"), (Y.2.2 2, .array .int)]
def AW (Y : GY) : Nat → Prop := fun q => ∃ c, c < NW ∧ q = Y.1 c
def AdI (Y : GY) : Prop := ∀ i j, i < NW → j < NW → Y.1 i = Y.1 j → i = j
theorem sh_lt {c n k : Nat} (h : sh c = (n, k)) (hn : n < 9) : c < NW := by
  rcases Nat.lt_or_ge c NW with q | q
  · exact q
  · have hl : shL.length = NW := by decide +kernel
    have : sh c = (9, 0) := by
      unfold sh
      rw [List.getD_eq_getElem?_getD, List.getElem?_eq_none (by rw [hl]; exact q)]
      rfl
    rw [this] at h
    cases h
    omega
theorem wsW_at (Y : GY) (h : Hp) {c : Nat} (hc : c < NW) : (wsW Y h)[c]? = some (Y.1 c, cellE Y c (h c)) := by
  unfold wsW
  rw [List.getElem?_map, List.getElem?_range hc]
  rfl
theorem wsW_D {Y : GY} (hAd : AdI Y) (h : Hp) : va_D (AW Y) (wsW Y h) := by
  have key : ∀ (i : Nat) (p : Nat × va_E), (wsW Y h)[i]? = some p → i < NW ∧ p.1 = Y.1 i := by
    intro i p hp
    have hl : i < (wsW Y h).length := (List.getElem?_eq_some_iff.mp hp).1
    have hi : i < NW := by simpa [wsW] using hl
    rw [wsW_at Y h hi] at hp
    cases hp
    exact ⟨hi, rfl⟩
  refine ⟨fun i j p q hp hq e => ?_, fun k q hk => ?_⟩
  · obtain ⟨h1, h2⟩ := key i p hp
    obtain ⟨h3, h4⟩ := key j q hq
    exact hAd i j h1 h3 (by rw [← h2, ← h4, e])
  · obtain ⟨h1, h2⟩ := key k q hk
    exact ⟨k, h1, h2⟩
theorem wsW_set {Y : GY} {h h' : Hp} {c : Nat} (hc : c < NW) (ho : ∀ j, j ≠ c → h' j = h j) : (wsW Y h).set c (Y.1 c, cellE Y c (h' c)) = wsW Y h' := by
  apply List.ext_getElem?
  intro j
  rcases Nat.lt_or_ge j NW with hj | hj
  · rw [wsW_at Y h' hj]
    by_cases e : j = c
    · subst e
      have hl : j < (wsW Y h).length := by simp [wsW]; exact hj
      rw [List.getElem?_set_self hl]
    · rw [List.getElem?_set_ne (fun q => e q.symm), wsW_at Y h hj, ho j e]
  · have hl : ∀ g : Hp, (wsW Y g).length = NW := fun g => by simp [wsW]
    rw [List.getElem?_eq_none (by rw [List.length_set, hl]; exact hj), List.getElem?_eq_none (by rw [hl]; exact hj)]
theorem wr_self {h : Hp} {a k : Nat} {x : Int32} : wr h a k x a k = x := by unfold wr; rw [if_pos ⟨rfl, rfl⟩]
theorem wr_c {h : Hp} {a k c : Nat} {x : Int32} (e : c ≠ a) : wr h a k x c = h c := by
  funext j
  unfold wr
  rw [if_neg (fun q => e q.1)]
theorem wr_k {h : Hp} {a k c j : Nat} {x : Int32} (e : j ≠ k) : wr h a k x c j = h c j := by
  unfold wr
  rw [if_neg (fun q => e q.2)]
theorem wr_row {h : Hp} {a k : Nat} {x : Int32} : wr h a k x a = upd (h a) k x := by
  funext j
  unfold wr upd
  by_cases e : j = k
  · rw [if_pos ⟨rfl, e⟩, if_pos e]
  · rw [if_neg (fun q => e q.2), if_neg e]
theorem wrL_c {h : Hp} {a c : Nat} {x : Int64} (e : c ≠ a) : wrL h a x c = h c := by unfold wrL; rw [wr_c e, wr_c e]
theorem wrL_k {h : Hp} {a c j : Nat} {x : Int64} (e : j < 100) : wrL h a x c j = h c j := by
  unfold wrL
  rw [wr_k (by omega), wr_k (by omega)]
theorem rdL_wrL {h : Hp} {a : Nat} {x : Int64} : rdL (wrL h a x a) = x := by
  unfold rdL wrL
  rw [wr_self, wr_k (show (100 : Nat) ≠ 101 by decide), wr_self]
  have h1 := Int64.le_toInt x
  have h2 := Int64.toInt_lt x
  rw [Int32.toInt_ofInt_of_le (by omega) (by omega), Int32.toInt_ofInt_of_le (by omega) (by omega)]
  rw [show x.toInt / 4294967296 * 4294967296 + (x.toInt % 4294967296 - 2147483648 + 2147483648) = x.toInt by omega]
  exact Int64.ofInt_toInt x
theorem rdL_wr {h : Hp} {a k c : Nat} {x : Int32} (hk : k < 100) : rdL (wr h a k x c) = rdL (h c) := by
  unfold rdL
  rw [wr_k (show (100 : Nat) ≠ k by omega), wr_k (show (101 : Nat) ≠ k by omega)]
theorem flds_at {ad : Nat → Nat} {c ci k : Nat} {f : Nat → Int32} (hk : k < fnF ci) : (flds ad c ci f)[k]? = some (fval ad c ci f k) := by
  unfold flds
  rw [List.getElem?_map, List.getElem?_range hk]
  rfl
theorem flds_len {ad : Nat → Nat} {c ci : Nat} {f : Nat → Int32} : (flds ad c ci f).length = fnF ci := by simp [flds]
theorem fval_wr {ad : Nat → Nat} {h : Hp} {a c ci k j : Nat} {x : Int32} (hk : k < 100) (e : j ≠ k) : fval ad c ci (wr h a k x c) j = fval ad c ci (h c) j := by
  unfold fval
  rw [wr_k e, rdL_wr hk]
theorem fval_wrL {ad : Nat → Nat} {h : Hp} {a c ci j : Nat} {x : Int64} (hj : j < 100) (e : (fk ci j).1 ≠ 1) : fval ad c ci (wrL h a x c) j = fval ad c ci (h c) j := by
  unfold fval
  rw [wrL_k hj]
  revert e
  generalize (fk ci j).1 = q
  intro e
  match q, e with
  | 0, _ => show Value.int (h c j) = Value.int (h c j); rfl
  | 1, e => exact absurd rfl e
  | 2, _ => show Value.ref (ad (c + (fk ci j).2)) = Value.ref (ad (c + (fk ci j).2)); rfl
  | 3, _ => show Value.ref (ad (fk ci j).2) = Value.ref (ad (fk ci j).2); rfl
  | 4, _ => show Value.int (h c j) = Value.int (h c j); rfl
  | _ + 5, _ => show Value.ref (ad (fk ci j).2) = Value.ref (ad (fk ci j).2); rfl
theorem flds_set {ad : Nat → Nat} {h : Hp} {c ci k : Nat} {x : Int32} (hk : k < fnF ci) (hk2 : k < 100) (hf : (fk ci k).1 = 0 ∨ (fk ci k).1 = 4) : (flds ad c ci (h c)).set k (.int x) = flds ad c ci (wr h c k x c) := by
  apply List.ext_getElem?
  intro j
  rcases Nat.lt_or_ge j (fnF ci) with hj | hj
  · rw [flds_at hj]
    by_cases e : j = k
    · subst e
      rw [List.getElem?_set_self (by rw [flds_len]; exact hj)]
      unfold fval
      rcases hf with q | q <;> rw [q] <;> simp only [wr_self]
    · rw [List.getElem?_set_ne (fun q => e q.symm), flds_at hj, fval_wr hk2 e]
  · rw [List.getElem?_eq_none (by rw [List.length_set, flds_len]; exact hj), List.getElem?_eq_none (by rw [flds_len]; exact hj)]
theorem flds_setL {ad : Nat → Nat} {h : Hp} {c ci k : Nat} {x : Int64} (hk : k < fnF ci) (hN : fnF ci ≤ 100) (hf : (fk ci k).1 = 1) (hu : ∀ j, j < fnF ci → (fk ci j).1 = 1 → j = k) : (flds ad c ci (h c)).set k (.long x) = flds ad c ci (wrL h c x c) := by
  apply List.ext_getElem?
  intro j
  rcases Nat.lt_or_ge j (fnF ci) with hj | hj
  · rw [flds_at hj]
    by_cases e : j = k
    · subst e
      rw [List.getElem?_set_self (by rw [flds_len]; exact hj)]
      unfold fval
      rw [hf]
      simp only [rdL_wrL]
    · rw [List.getElem?_set_ne (fun q => e q.symm), flds_at hj, fval_wrL (by omega) (fun q => e (hu j hj q))]
  · rw [List.getElem?_eq_none (by rw [List.length_set, flds_len]; exact hj), List.getElem?_eq_none (by rw [flds_len]; exact hj)]
/-- what lies outside the world and never changes: the class's table of bodies, the words' text -/
def ExA (Y : GY) (U : State) (H : Heap) : Prop :=
  va_Z "PlayedTruth$Acting" "BODY_OF" "[I" (.ref (Y.1 997)) (AW Y) U H ∧ va_T .int (Y.1 997) 24 (fun j => .int (bodyOf j)) (AW Y) U H ∧ vk_R "PlayedTruth$RuleReader" 75 wordsTx (Y.1 998) U ∧ vk_S 1 [wordsB.length] [wordsB] (fun _ => Y.1 998) (fun _ => Y.1 996) (AW Y) U H ∧ va_Z "java/lang/String" "COMPACT_STRINGS" "Z" (.int 1) (AW Y) U H ∧ va_Zq "jdk/internal/util/Preconditions" "SIOOBE_FORMATTER" "Ljava/util/function/BiFunction;" (AW Y) U H
theorem ExA.go {Y : GY} {s U : State} {H H1 : Heap} (h : ExA Y s H) (hW : s.WarmedH U.vm) (hq : ∀ a : Nat, a < H.size → ¬ AW Y a → H1[a]? = H[a]?) : ExA Y U H1 := by
  obtain ⟨h1, h2, h3, h4, h5, h6⟩ := h
  have ha := hW.alike
  exact ⟨(h1.moved ha).kept hq, (h2.moved ha).kept hq, h3.warm hW, (h4.moved ha).kept hq, (h5.moved ha).kept hq, (h6.moved ha).kept hq⟩
theorem ExA.same {Y : GY} {s U : State} {H : Heap} (h : ExA Y s H) (hv : U.vm = s.vm) : ExA Y U H := by
  obtain ⟨h1, h2, h3, h4, h5, h6⟩ := h
  have ha : s.vm.Alike U.vm := by rw [hv]; exact Vm.Alike.refl _
  exact ⟨h1.moved ha, h2.moved ha, h3.same hv, h4.moved ha, h5.moved ha, h6.moved ha⟩
/-- a method's words: its code, and all of tbl -/
def wdW (mi : Nat) : List Jvm.Cond := .code (mth mi).1 (mth mi).2.1 (mth mi).2.2.1 (mth mi).2.2.2 :: tbl
def rmD (d : Nat) : Room := { frames := d, cells := 0, slots := 0, locals := 64 * d }
def PcW (Y : GY) (vs : List Value) (h : Hp) : Array Value → State → Prop := va_Pc (vs.map (cz Y.1)) (fun U => va_P Y.2.1 classes (wsW Y h) U.heap ∧ va_K Y.2.1 classes (tysW Y) U ∧ ExA Y U U.heap)
def QcW (Y : GY) (Q : Option Value → Hp → Prop) : Array Value → State → Outcome → State → Prop := fun _ st oc t => (∃ (r : Option Value) (h' : Hp), Q r h' ∧ oc = .returned (r.map (cz Y.1)) ∧ va_P Y.2.1 classes (wsW Y h') t.heap) ∧ va_F (AW Y) st t
/-- THE CONTRACT: called with vs at store h, method mi (with d frames below it at most) returns, and Q holds of answer and store -/
def C (d mi : Nat) (vs : List Value) (h : Hp) (Q : Option Value → Hp → Prop) : Prop := ∀ (l : Launch) (Y : GY), AdI Y → Met l (mth mi).1 (wdW mi) (rmD d) (PcW Y vs h) (QcW Y Q) 0 0 (AW Y)
def CI (d mi : Nat) (vs : List Value) (h : Hp) (Q : Int32 → Hp → Prop) : Prop := C d mi vs h (fun r h' => ∃ x : Int32, r = some (.int x) ∧ Q x h')
def CV (d mi : Nat) (vs : List Value) (h : Hp) (Q : Hp → Prop) : Prop := C d mi vs h (fun r h' => r = none ∧ Q h')
def CR (d mi : Nat) (vs : List Value) (h : Hp) (Q : Nat → Hp → Prop) : Prop := C d mi vs h (fun r h' => ∃ a : Nat, r = some (.ref a) ∧ Q a h')
def lg : List (Option Value) → Nat → Option Value
  | [], _ => none
  | x :: _, 0 => x
  | _ :: t, n + 1 => lg t n
def lst : List (Option Value) → Nat → Option Value → List (Option Value)
  | [], _, _ => []
  | _ :: t, 0, v => v :: t
  | x :: t, n + 1, v => x :: lst t n v
def npl (lv : List (Option Value)) (i : Nat) : Bool := match i with
  | 0 => true
  | n + 1 => match lg lv n with
    | some v => v.category == 1
    | none => true
def lvR (ad : Nat → Nat) (ls : Array Slot) (nL : Nat) (lv : List (Option Value)) : Prop := ls.size = nL ∧ lv_wf ls ∧ ∀ (i : Nat) (v : Value), lg lv i = some v → ls[i]? = some (.val (cz ad v))
abbrev GX : Type := (Program × Launch × Env × Room × State) × (MethodId × Array Value × List Frame × Method × Code) × GY × (Nat × Nat × (State → Prop) × (Option Value → Hp → Prop)) × Option (Nat × (Nat → Int32))
/-- returning r with store h is what the method owes -/
def RtX (X : GX) : Option Value → Hp → Prop := X.2.2.2.1.2.2.2
def rok (mi : Nat) (r : Option Value) : Prop := match (mth mi).2.2.2, r with
  | none, none => True
  | some .int, some (.int _) => True
  | some .boolean, some (.int x) => x = 0 ∨ x = 1
  | some (.object _), some (.ref _) => True
  | _, _ => False
def rIn : Option Value → Instr
  | none => .return_
  | some (.int _) => .ireturn
  | some (.ref _) => .areturn
  | _ => .nop
def GE (X : GX) (d mi : Nat) : Prop := match X with
  | ((p, l, e, R, s), (m, args, below, meth, c), Y, (ce, sl, Q, Rt), o) =>
    p.tables.exec = Jvm.exec ∧ c.code = (mth mi).2.1 ∧ c.maxLocals = (mth mi).2.2.1 ∧ s.vm.findClass (mth mi).1.cls = some m.cls ∧ (∀ w ∈ tbl, w.before args s = true) ∧ va_K Y.2.1 classes (tysW Y) s ∧ AdI Y ∧ ExA Y s s.heap ∧
    (d ≤ R.frames ∧ 64 * d ≤ R.locals ∧ ce ≤ R.cells ∧ sl ≤ R.slots) ∧
    (∀ (r : Option Value) (h : Hp), Rt r h → rok mi r → ∀ (H : Heap) (locs : List Loc) (pc : Nat) (ls : Array Slot), va_P Y.2.1 classes (wsW Y h) H → va_S (AW Y) s.heap H locs → decode (mth mi).2.1 pc = .ok (rIn r, 1) → W p l e R s m args below meth c H locs ce sl Q (F0 m pc ls (r.toList.map (cz Y.1)))) ∧
    (∀ (L : Nat) (xs : Nat → Int32), o = some (L, xs) → va_X (Y.1 999) L xs s s.heap ∧ Y.1 999 < s.heap.size ∧ ¬ AW Y (Y.1 999))
def G (X : GX) (d mi pc : Nat) (lv : List (Option Value)) (st : List Value) (h : Hp) : Prop := match X with
  | ((p, l, e, R, s), (m, args, below, meth, c), Y, (ce, sl, Q, Rt), o) =>
    GE ((p, l, e, R, s), (m, args, below, meth, c), Y, (ce, sl, Q, Rt), o) d mi → ∀ (H : Heap) (locs : List Loc) (ls : Array Slot), va_P Y.2.1 classes (wsW Y h) H → va_S (AW Y) s.heap H locs → lvR Y.1 ls (mth mi).2.2.1 lv → W p l e R s m args below meth c H locs ce sl Q (F0 m pc ls (st.map (cz Y.1)))
