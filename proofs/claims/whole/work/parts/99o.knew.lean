/-! part 99o: the judgement K: a walk that makes cells -/
def tysC (ct : Nat → ClassId) : List (ClassId × FieldType) := [(ct 0, .int), (ct 1, .object "PlayedTruth$Moment"), (ct 2, .array .int)]
def nestL : List (String × Nat × Nat) := [("PlayedTruth$Stage", 29, 3), ("PlayedTruth", 18, 4), ("PlayedTruth", 25, 5), ("PlayedTruth", 32, 6), ("PlayedTruth$RuleReader", 19, 3), ("PlayedTruth$Ahead", 54, 4), ("PlayedTruth", 48, 8), ("PlayedTruth", 55, 9)]
/-- the classes int[] and int[][] are there, the one over the other -/
def AOA (U : State) : Prop := ∃ (cA cC cc : ClassId) (kA kC : Class), U.vm.findClass "[[I" = some cA ∧ U.vm.findClass "[I" = some cC ∧ U.vm.classes[cA]? = some kA ∧ kA.kind = .array cC (.array .int) ∧ U.vm.classes[cC]? = some kC ∧ kC.kind = .array cc .int
theorem AOA.moved {u U : State} (hvm : u.vm.Alike U.vm) (h : AOA u) : AOA U := by
  obtain ⟨cA, cC, cc, kA, kC, h1, h2, h3, h4, h5, h6⟩ := h
  obtain ⟨kA', g1, g2⟩ := hvm.2.2 _ _ h3
  obtain ⟨kC', g3, g4⟩ := hvm.2.2 _ _ h5
  exact ⟨cA, cC, cc, kA', kC', by rw [hvm.findClass]; exact h1, by rw [hvm.findClass]; exact h2, g1, by rw [g2]; exact h4, g3, by rw [g4]; exact h6⟩
def NsA (U : State) : Prop := (∀ x ∈ nestL, va_Nw (.methodLinkNest x.1 x.2.1 (mth x.2.2).1 "PlayedTruth") U) ∧ va_AO "PlayedTruth$Moment" U ∧ AOA U
theorem NsA.go {s U : State} (h : NsA s) (hW : s.WarmedH U.vm) : NsA U := ⟨fun x hx => (h.1 x hx).warmM hW, h.2.1.moved hW.alike, h.2.2.moved hW.alike⟩
theorem NsA.same {s U : State} (h : NsA s) (hv : U.vm = s.vm) : NsA U := ⟨fun x hx => va_Nw.same rfl hv.symm (h.1 x hx), h.2.1.moved (by rw [hv]; exact Vm.Alike.refl _), h.2.2.moved (by rw [hv]; exact Vm.Alike.refl _)⟩
def vOk (n : Nat) : Value → Prop
  | .ref a => a < n ∨ 900 ≤ a
  | _ => True
/-- the same addresses, of the cells below n and of what lies outside the world -/
def Ag (n : Nat) (ad ad' : Nat → Nat) : Prop := ∀ c, c < n ∨ 900 ≤ c → ad' c = ad c
theorem vOk_lt {n a : Nat} (h : vOk n (.ref a)) (h9 : a < NW) : a < n := by have h1 : a < n ∨ 900 ≤ a := h; have : NW = 101 := rfl; omega
theorem cz_go {ad ad' : Nat → Nat} {n : Nat} (ha : Ag n ad ad') {v : Value} (hv : vOk n v) : cz ad' v = cz ad v := by
  cases v <;> first | rfl | (show Value.ref _ = Value.ref _; rw [ha _ hv])
abbrev KX : Type := (Program × Launch × Env × Room × State) × (MethodId × Array Value × List Frame × Method × Code) × (va_G × (Nat → ClassId) × Nat) × (Nat × Nat × (Nat → Nat)) × ((State → Prop) × (Hp → Nat → Prop))
def RtK (X : KX) : Hp → Nat → Prop := X.2.2.2.2.2
def nmK (X : KX) : Nat := X.2.2.2.1.2.1
abbrev AK (S0 : Nat) : Nat → Prop := fun q => S0 ≤ q
def KE (X : KX) (d mi : Nat) : Prop := match X with
  | ((p, l, e, R, s), (m, args, below, meth, c), (D, ct, S0), (n0, nm, ad0), (Q, Rt)) =>
    p.tables.exec = Jvm.exec ∧ c.code = (mth mi).2.1 ∧ c.maxLocals = (mth mi).2.2.1 ∧ s.vm.findClass (mth mi).1.cls = some m.cls ∧ (∀ w ∈ tbl, w.before args s = true) ∧ va_K D classes (tysC ct) s ∧ NsA s ∧
    (d ≤ R.frames ∧ 64 * d ≤ R.locals ∧ nm - n0 ≤ R.cells ∧ szN nm - szN n0 ≤ R.slots) ∧ (S0 ≤ s.heap.size ∧ n0 ≤ nm ∧ nm ≤ NW ∧ ((mth mi).1.name = "<init>" → meth.name = "<init>")) ∧
    (∀ (h : Hp) (n : Nat), Rt h n → wfN h n → ∀ (ad : Nat → Nat) (H : Heap) (locs : List Loc) (pc : Nat) (ls : Array Slot), (∀ c, c < n0 ∨ 900 ≤ c → ad c = ad0 c) → AdN S0 ad n → va_P D classes (wsN ad ct h n) H → va_S (AK S0) s.heap H locs → decode (mth mi).2.1 pc = .ok (.return_, 1) → W p l e R s m args below meth c H locs (n - n0) (szN n - szN n0) Q (F0 m pc ls []))
def K (X : KX) (d mi pc : Nat) (lv : List (Option Value)) (st : List Value) (h : Hp) (n : Nat) : Prop := match X with
  | ((p, l, e, R, s), (m, args, below, meth, c), (D, ct, S0), (n0, nm, ad0), (Q, Rt)) =>
    KE ((p, l, e, R, s), (m, args, below, meth, c), (D, ct, S0), (n0, nm, ad0), (Q, Rt)) d mi → n0 ≤ n ∧ n ≤ nm → wfN h n → (∀ v ∈ st, vOk n v) → (∀ i v, lg lv i = some v → vOk n v) → ∀ (ad : Nat → Nat) (H : Heap) (locs : List Loc) (ls : Array Slot), (∀ c, c < n0 ∨ 900 ≤ c → ad c = ad0 c) → AdN S0 ad n → va_P D classes (wsN ad ct h n) H → va_S (AK S0) s.heap H locs → lvR ad ls (mth mi).2.2.1 lv → W p l e R s m args below meth c H locs (n - n0) (szN n - szN n0) Q (F0 m pc ls (st.map (cz ad)))
theorem ok_cons {n : Nat} {v : Value} {t : List Value} (hv : vOk n v) (ht : ∀ w ∈ t, vOk n w) : ∀ w ∈ v :: t, vOk n w := fun w hw => by
  rcases List.mem_cons.mp hw with rfl | q
  · exact hv
  · exact ht w q
theorem ok_tl {n : Nat} {v : Value} {t : List Value} (h : ∀ w ∈ v :: t, vOk n w) : ∀ w ∈ t, vOk n w := fun w hw => h w (List.mem_cons_of_mem _ hw)
theorem lst_ok {n : Nat} {x : Value} (hx : vOk n x) : ∀ {lv : List (Option Value)} {j : Nat}, (∀ i v, lg lv i = some v → vOk n v) → ∀ i v, lg (lst lv j (some x)) i = some v → vOk n v
  | [], j, hl, i, v, hi => by cases j <;> cases hi
  | _ :: t, 0, hl, 0, v, hi => by cases hi; exact hx
  | _ :: t, 0, hl, i + 1, v, hi => hl (i + 1) v hi
  | y :: t, j + 1, hl, 0, v, hi => hl 0 v hi
  | y :: t, j + 1, hl, i + 1, v, hi => lst_ok hx (lv := t) (j := j) (fun i v h => hl (i + 1) v h) i v hi
theorem k_aload_n {X : KX} {d mi pc nn : Nat} {lv : List (Option Value)} {t : List Value} {h : Hp} {n : Fin 4} {j x : Nat} (hd : decode (mth mi).2.1 pc = .ok (.aload_n n, 1)) (hj : (n : Nat) = j) (hx : lg lv j = some (.ref x)) (k : K X d mi (pc + 1) lv (.ref x :: t) h nn) : K X d mi pc lv t h nn := by
  obtain ⟨⟨p, l, e, R, s⟩, ⟨m, args, below, meth, c⟩, ⟨D, ct, S0⟩, ⟨n0, nm, ad0⟩, Q, Rt⟩ := X
  intro E hb hw o1 o2 ad H locs ls ha hA hP hS hl
  exact lv_aload_n E.1 E.2.1 hd hj (hl.2.2 _ _ hx) (k E hb hw (ok_cons (o2 _ _ hx) o1) o2 ad H locs ls ha hA hP hS hl)
theorem k_iload_n {X : KX} {d mi pc nn : Nat} {lv : List (Option Value)} {t : List Value} {h : Hp} {n : Fin 4} {j : Nat} {x : Int32} (hd : decode (mth mi).2.1 pc = .ok (.iload_n n, 1)) (hj : (n : Nat) = j) (hx : lg lv j = some (.int x)) (k : K X d mi (pc + 1) lv (.int x :: t) h nn) : K X d mi pc lv t h nn := by
  obtain ⟨⟨p, l, e, R, s⟩, ⟨m, args, below, meth, c⟩, ⟨D, ct, S0⟩, ⟨n0, nm, ad0⟩, Q, Rt⟩ := X
  intro E hb hw o1 o2 ad H locs ls ha hA hP hS hl
  exact lv_iload_n E.1 E.2.1 hd hj (hl.2.2 _ _ hx) (k E hb hw (ok_cons trivial o1) o2 ad H locs ls ha hA hP hS hl)
theorem k_iconst {X : KX} {d mi pc nn : Nat} {lv : List (Option Value)} {t : List Value} {h : Hp} {n : Int} {v : Int32} (hd : decode (mth mi).2.1 pc = .ok (.iconst n, 1)) (hv : Int32.ofInt n = v) (k : K X d mi (pc + 1) lv (.int v :: t) h nn) : K X d mi pc lv t h nn := by
  obtain ⟨⟨p, l, e, R, s⟩, ⟨m, args, below, meth, c⟩, ⟨D, ct, S0⟩, ⟨n0, nm, ad0⟩, Q, Rt⟩ := X
  intro E hb hw o1 o2 ad H locs ls ha hA hP hS hl
  exact lv_iconst E.1 E.2.1 hd hv (k E hb hw (ok_cons trivial o1) o2 ad H locs ls ha hA hP hS hl)
theorem k_bipush {X : KX} {d mi pc nn : Nat} {lv : List (Option Value)} {t : List Value} {h : Hp} {n : Int} {v : Int32} (hd : decode (mth mi).2.1 pc = .ok (.bipush n, 2)) (hv : (Int8.ofInt n).toInt32 = v) (k : K X d mi (pc + 2) lv (.int v :: t) h nn) : K X d mi pc lv t h nn := by
  obtain ⟨⟨p, l, e, R, s⟩, ⟨m, args, below, meth, c⟩, ⟨D, ct, S0⟩, ⟨n0, nm, ad0⟩, Q, Rt⟩ := X
  intro E hb hw o1 o2 ad H locs ls ha hA hP hS hl
  exact lv_bipush E.1 E.2.1 hd hv (k E hb hw (ok_cons trivial o1) o2 ad H locs ls ha hA hP hS hl)
theorem k_sipush {X : KX} {d mi pc nn : Nat} {lv : List (Option Value)} {t : List Value} {h : Hp} {n : Int} {v : Int32} (hd : decode (mth mi).2.1 pc = .ok (.sipush n, 3)) (hv : (Int16.ofInt n).toInt32 = v) (k : K X d mi (pc + 3) lv (.int v :: t) h nn) : K X d mi pc lv t h nn := by
  obtain ⟨⟨p, l, e, R, s⟩, ⟨m, args, below, meth, c⟩, ⟨D, ct, S0⟩, ⟨n0, nm, ad0⟩, Q, Rt⟩ := X
  intro E hb hw o1 o2 ad H locs ls ha hA hP hS hl
  exact lv_sipush E.1 E.2.1 hd hv (k E hb hw (ok_cons trivial o1) o2 ad H locs ls ha hA hP hS hl)
theorem k_dup {X : KX} {d mi pc nn : Nat} {lv : List (Option Value)} {t : List Value} {h : Hp} {u : Value} (hd : decode (mth mi).2.1 pc = .ok (.dup, 1)) (hu : u.category = 1) (k : K X d mi (pc + 1) lv (u :: u :: t) h nn) : K X d mi pc lv (u :: t) h nn := by
  obtain ⟨⟨p, l, e, R, s⟩, ⟨m, args, below, meth, c⟩, ⟨D, ct, S0⟩, ⟨n0, nm, ad0⟩, Q, Rt⟩ := X
  intro E hb hw o1 o2 ad H locs ls ha hA hP hS hl
  exact lv_dup E.1 E.2.1 hd (by rw [cz_cat]; exact hu) (k E hb hw (ok_cons (o1 _ List.mem_cons_self) o1) o2 ad H locs ls ha hA hP hS hl)
theorem k_istore_n {X : KX} {d mi pc nn : Nat} {lv : List (Option Value)} {t : List Value} {h : Hp} {n : Fin 4} {j : Nat} {x : Int32} (hd : decode (mth mi).2.1 pc = .ok (.istore_n n, 1)) (hj : (n : Nat) = j) (hn : j < (mth mi).2.2.1) (hp : npl lv j = true) (k : K X d mi (pc + 1) (lst lv j (some (.int x))) t h nn) : K X d mi pc lv (.int x :: t) h nn := by
  obtain ⟨⟨p, l, e, R, s⟩, ⟨m, args, below, meth, c⟩, ⟨D, ct, S0⟩, ⟨n0, nm, ad0⟩, Q, Rt⟩ := X
  intro E hb hw o1 o2 ad H locs ls ha hA hP hS hl
  exact lv_istore_n E.1 E.2.1 hd hj hl.has hn rfl (fun ls' h' => k E hb hw (ok_tl o1) (lst_ok (x := .int x) trivial o2) ad H locs ls' ha hA hP hS (lvR.put (x := .int x) hp h'))
theorem k_astore_n {X : KX} {d mi pc nn : Nat} {lv : List (Option Value)} {t : List Value} {h : Hp} {n : Fin 4} {j : Nat} {x : Nat} (hd : decode (mth mi).2.1 pc = .ok (.astore_n n, 1)) (hj : (n : Nat) = j) (hn : j < (mth mi).2.2.1) (hp : npl lv j = true) (k : K X d mi (pc + 1) (lst lv j (some (.ref x))) t h nn) : K X d mi pc lv (.ref x :: t) h nn := by
  obtain ⟨⟨p, l, e, R, s⟩, ⟨m, args, below, meth, c⟩, ⟨D, ct, S0⟩, ⟨n0, nm, ad0⟩, Q, Rt⟩ := X
  intro E hb hw o1 o2 ad H locs ls ha hA hP hS hl
  exact lv_astore_n E.1 E.2.1 hd hj hl.has hn rfl (fun ls' h' => k E hb hw (ok_tl o1) (lst_ok (x := .ref x) (o1 _ List.mem_cons_self) o2) ad H locs ls' ha hA hP hS (lvR.put (x := .ref x) hp h'))
theorem k_iinc {X : KX} {d mi pc nn : Nat} {lv : List (Option Value)} {t : List Value} {h : Hp} {n : Nat} {z : Int} {x w y : Int32} (hd : decode (mth mi).2.1 pc = .ok (.iinc n z, 3)) (hx : lg lv n = some (.int x)) (hz : Int32.ofInt z = w) (hy : x + w = y) (hn : n < (mth mi).2.2.1) (hp : npl lv n = true) (k : K X d mi (pc + 3) (lst lv n (some (.int y))) t h nn) : K X d mi pc lv t h nn := by
  obtain ⟨⟨p, l, e, R, s⟩, ⟨m, args, below, meth, c⟩, ⟨D, ct, S0⟩, ⟨n0, nm, ad0⟩, Q, Rt⟩ := X
  intro E hb hw o1 o2 ad H locs ls ha hA hP hS hl
  obtain ⟨q, hq⟩ := List.getElem?_of_mem (lvP_mem (ad := ad) hx)
  subst hy
  exact lv_iinc (v := x + w) E.1 E.2.1 hd hl.has (k := q) hq (by rw [hz]) hn rfl (fun ls' h' => k E hb hw o1 (lst_ok (x := .int (x + w)) trivial o2) ad H locs ls' ha hA hP hS (lvR.put (x := .int (x + w)) hp h'))
theorem k_icmp_ge {X : KX} {d mi pc nn : Nat} {lv : List (Option Value)} {t : List Value} {h : Hp} {x y : Int32} {off : Int} {tgt : Nat} (hd : decode (mth mi).2.1 pc = .ok (.if_icmp .ge off, 3)) (ht : (pc : Int) + off = (tgt : Int)) (kt : y ≤ x → K X d mi tgt lv t h nn) (kf : ¬ y ≤ x → K X d mi (pc + 3) lv t h nn) : K X d mi pc lv (.int y :: .int x :: t) h nn := by
  obtain ⟨⟨p, l, e, R, s⟩, ⟨m, args, below, meth, c⟩, ⟨D, ct, S0⟩, ⟨n0, nm, ad0⟩, Q, Rt⟩ := X
  intro E hb hw o1 o2 ad H locs ls ha hA hP hS hl
  exact lv_icmp_ge E.1 E.2.1 hd ht (fun q => kt q E hb hw (ok_tl (ok_tl o1)) o2 ad H locs ls ha hA hP hS hl) (fun q => kf q E hb hw (ok_tl (ok_tl o1)) o2 ad H locs ls ha hA hP hS hl)
theorem k_goto {X : KX} {d mi pc nn : Nat} {lv : List (Option Value)} {t : List Value} {h : Hp} {off : Int} {tgt : Nat} (hd : decode (mth mi).2.1 pc = .ok (.goto off, 3)) (ht : (pc : Int) + off = (tgt : Int)) (k : K X d mi tgt lv t h nn) : K X d mi pc lv t h nn := by
  obtain ⟨⟨p, l, e, R, s⟩, ⟨m, args, below, meth, c⟩, ⟨D, ct, S0⟩, ⟨n0, nm, ad0⟩, Q, Rt⟩ := X
  intro E hb hw o1 o2 ad H locs ls ha hA hP hS hl
  exact lv_goto E.1 E.2.1 hd ht (k E hb hw o1 o2 ad H locs ls ha hA hP hS hl)
theorem k_ret {X : KX} {d mi pc nn : Nat} {lv : List (Option Value)} {h : Hp} (hd : decode (mth mi).2.1 pc = .ok (.return_, 1)) (hq : RtK X h nn) : K X d mi pc lv [] h nn := by
  obtain ⟨⟨p, l, e, R, s⟩, ⟨m, args, below, meth, c⟩, ⟨D, ct, S0⟩, ⟨n0, nm, ad0⟩, Q, Rt⟩ := X
  intro E hb hw o1 o2 ad H locs ls ha hA hP hS hl
  exact E.2.2.2.2.2.2.2.2.2 h nn hq hw ad H locs pc ls ha hA hP hS hd
/-- the addresses, and one more -/
def adP (ad : Nat → Nat) (n q : Nat) : Nat → Nat := fun c => if c = n then q else ad c
theorem adP_lt {ad : Nat → Nat} {n q c : Nat} (h : c < n) : adP ad n q c = ad c := by unfold adP; rw [if_neg (by omega)]
theorem adP_n {ad : Nat → Nat} {n q : Nat} : adP ad n q n = q := by unfold adP; rw [if_pos rfl]
theorem adP_ag {ad : Nat → Nat} {n q : Nat} (hn : n < 900) : Ag n ad (adP ad n q) := fun c hc => by unfold adP; rw [if_neg (by omega)]
theorem AdN_P {S0 n q : Nat} {ad : Nat → Nat} {ws : va_W} {x : va_E} (hA : AdN S0 ad n) (hD : va_D (AK S0) (ws ++ [(q, x)])) (hl : ws.length = n) (hw : ∀ i, i < n → ∃ y, ws[i]? = some (ad i, y)) : AdN S0 (adP ad n q) (n + 1) := by
  have hq : (ws ++ [(q, x)])[n]? = some (q, x) := by
    rw [List.getElem?_append_right (by omega), hl, Nat.sub_self]
    rfl
  have hi : ∀ i, i < n → ∃ y, (ws ++ [(q, x)])[i]? = some (ad i, y) := by
    intro i hi
    obtain ⟨y, hy⟩ := hw i hi
    exact ⟨y, by rw [List.getElem?_append_left (by omega)]; exact hy⟩
  refine ⟨fun i j h1 h2 e => ?_, fun i h1 => ?_⟩
  · rcases Nat.lt_or_ge i n with a | a
    · rcases Nat.lt_or_ge j n with b | b
      · rw [adP_lt a, adP_lt b] at e
        exact hA.1 i j a b e
      · obtain rfl : j = n := by omega
        obtain ⟨y, hy⟩ := hi i a
        rw [adP_lt a, adP_n] at e
        exact hD.1 i j _ _ hy hq e
    · obtain rfl : i = n := by omega
      rcases Nat.lt_or_ge j i with b | b
      · obtain ⟨y, hy⟩ := hi j b
        rw [adP_lt b, adP_n] at e
        exact hD.1 i j _ _ hq hy e
      · omega
  · rcases Nat.lt_or_ge i n with a | a
    · rw [adP_lt a]
      exact hA.2 i a
    · obtain rfl : i = n := by omega
      rw [adP_n]
      exact hD.2 i _ hq
theorem wsN_len {ad : Nat → Nat} {ct : Nat → ClassId} {n : Nat} {h : Hp} : (wsN ad ct h n).length = n := by simp [wsN]
theorem wsN_P {ad : Nat → Nat} {ct : Nat → ClassId} {n q : Nat} {h : Hp} {x : va_E} (hn : n ≤ NW) (hw : wfN h n) (hx : ∀ ad', cellN ad' ct n (zH n) = x) : wsN ad ct h n ++ [(q, x)] = wsN (adP ad n q) ct h (n + 1) := by
  rw [wsN_succ, wsN_go hn (fun c hc => adP_lt hc) hw, adP_n, hw.2.2 n (Nat.le_refl _), hx]
theorem lvR_P {ad ad' : Nat → Nat} {ls : Array Slot} {nL n : Nat} {lv : List (Option Value)} (h : lvR ad ls nL lv) (ha : Ag n ad ad') (o : ∀ i v, lg lv i = some v → vOk n v) : lvR ad' ls nL lv := ⟨h.1, h.2.1, fun i v hi => by rw [cz_go ha (o i v hi)]; exact h.2.2 i v hi⟩
theorem st_P {ad ad' : Nat → Nat} {n : Nat} {st : List Value} (ha : Ag n ad ad') (o : ∀ v ∈ st, vOk n v) : st.map (cz ad') = st.map (cz ad) := List.map_congr_left (fun v hv => cz_go ha (o v hv))
theorem vOk_S {n : Nat} {v : Value} (h : vOk n v) : vOk (n + 1) v := by cases v <;> first | trivial | exact h.imp Nat.lt_succ_of_lt id
theorem vOk_le {n n' : Nat} (hn : n ≤ n') {v : Value} (h : vOk n v) : vOk n' v := by cases v <;> first | trivial | exact h.imp (fun q => Nat.lt_of_lt_of_le q hn) id
