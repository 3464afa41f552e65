/-! part 04: the instructions over G (written by wip/whole/steps.py) -/
theorem g_iadd {X : GX} {d mi pc : Nat} {lv : List (Option Value)} {t : List Value} {h : Hp} {x y : Int32} (hd : decode (mth mi).2.1 pc = .ok (.iadd, 1))  (k : G X d mi (pc + 1) lv (.int (x + y) :: t) (h)) : G X d mi pc lv (.int y :: .int x :: t) h := by
  obtain ⟨⟨p, l, e, R, s⟩, ⟨m, args, below, meth, c⟩, Y, ⟨ce, sl, Q, Rt⟩, o⟩ := X
  intro E H locs ls hP hS hl
  exact lv_iadd E.1 E.2.1 hd (k E H locs ls hP hS hl)
theorem g_isub {X : GX} {d mi pc : Nat} {lv : List (Option Value)} {t : List Value} {h : Hp} {x y : Int32} (hd : decode (mth mi).2.1 pc = .ok (.isub, 1))  (k : G X d mi (pc + 1) lv (.int (x - y) :: t) (h)) : G X d mi pc lv (.int y :: .int x :: t) h := by
  obtain ⟨⟨p, l, e, R, s⟩, ⟨m, args, below, meth, c⟩, Y, ⟨ce, sl, Q, Rt⟩, o⟩ := X
  intro E H locs ls hP hS hl
  exact lv_isub E.1 E.2.1 hd (k E H locs ls hP hS hl)
theorem g_imul {X : GX} {d mi pc : Nat} {lv : List (Option Value)} {t : List Value} {h : Hp} {x y : Int32} (hd : decode (mth mi).2.1 pc = .ok (.imul, 1))  (k : G X d mi (pc + 1) lv (.int (x * y) :: t) (h)) : G X d mi pc lv (.int y :: .int x :: t) h := by
  obtain ⟨⟨p, l, e, R, s⟩, ⟨m, args, below, meth, c⟩, Y, ⟨ce, sl, Q, Rt⟩, o⟩ := X
  intro E H locs ls hP hS hl
  exact lv_imul E.1 E.2.1 hd (k E H locs ls hP hS hl)
theorem g_iand {X : GX} {d mi pc : Nat} {lv : List (Option Value)} {t : List Value} {h : Hp} {x y : Int32} (hd : decode (mth mi).2.1 pc = .ok (.iand, 1))  (k : G X d mi (pc + 1) lv (.int (x &&& y) :: t) (h)) : G X d mi pc lv (.int y :: .int x :: t) h := by
  obtain ⟨⟨p, l, e, R, s⟩, ⟨m, args, below, meth, c⟩, Y, ⟨ce, sl, Q, Rt⟩, o⟩ := X
  intro E H locs ls hP hS hl
  exact lv_iand E.1 E.2.1 hd (k E H locs ls hP hS hl)
theorem g_ior {X : GX} {d mi pc : Nat} {lv : List (Option Value)} {t : List Value} {h : Hp} {x y : Int32} (hd : decode (mth mi).2.1 pc = .ok (.ior, 1))  (k : G X d mi (pc + 1) lv (.int (x ||| y) :: t) (h)) : G X d mi pc lv (.int y :: .int x :: t) h := by
  obtain ⟨⟨p, l, e, R, s⟩, ⟨m, args, below, meth, c⟩, Y, ⟨ce, sl, Q, Rt⟩, o⟩ := X
  intro E H locs ls hP hS hl
  exact lv_ior E.1 E.2.1 hd (k E H locs ls hP hS hl)
theorem g_ixor {X : GX} {d mi pc : Nat} {lv : List (Option Value)} {t : List Value} {h : Hp} {x y : Int32} (hd : decode (mth mi).2.1 pc = .ok (.ixor, 1))  (k : G X d mi (pc + 1) lv (.int (x ^^^ y) :: t) (h)) : G X d mi pc lv (.int y :: .int x :: t) h := by
  obtain ⟨⟨p, l, e, R, s⟩, ⟨m, args, below, meth, c⟩, Y, ⟨ce, sl, Q, Rt⟩, o⟩ := X
  intro E H locs ls hP hS hl
  exact lv_ixor E.1 E.2.1 hd (k E H locs ls hP hS hl)
theorem g_ishl {X : GX} {d mi pc : Nat} {lv : List (Option Value)} {t : List Value} {h : Hp} {x y : Int32} (hd : decode (mth mi).2.1 pc = .ok (.ishl, 1))  (k : G X d mi (pc + 1) lv (.int (x <<< (y &&& 31)) :: t) (h)) : G X d mi pc lv (.int y :: .int x :: t) h := by
  obtain ⟨⟨p, l, e, R, s⟩, ⟨m, args, below, meth, c⟩, Y, ⟨ce, sl, Q, Rt⟩, o⟩ := X
  intro E H locs ls hP hS hl
  exact lv_ishl E.1 E.2.1 hd (k E H locs ls hP hS hl)
theorem g_ishr {X : GX} {d mi pc : Nat} {lv : List (Option Value)} {t : List Value} {h : Hp} {x y : Int32} (hd : decode (mth mi).2.1 pc = .ok (.ishr, 1))  (k : G X d mi (pc + 1) lv (.int (x >>> (y &&& 31)) :: t) (h)) : G X d mi pc lv (.int y :: .int x :: t) h := by
  obtain ⟨⟨p, l, e, R, s⟩, ⟨m, args, below, meth, c⟩, Y, ⟨ce, sl, Q, Rt⟩, o⟩ := X
  intro E H locs ls hP hS hl
  exact lv_ishr E.1 E.2.1 hd (k E H locs ls hP hS hl)
theorem g_idiv {X : GX} {d mi pc : Nat} {lv : List (Option Value)} {t : List Value} {h : Hp} {x y : Int32} (hd : decode (mth mi).2.1 pc = .ok (.idiv, 1)) (hn : ¬ y = 0) (k : G X d mi (pc + 1) lv (.int (x / y) :: t) (h)) : G X d mi pc lv (.int y :: .int x :: t) h := by
  obtain ⟨⟨p, l, e, R, s⟩, ⟨m, args, below, meth, c⟩, Y, ⟨ce, sl, Q, Rt⟩, o⟩ := X
  intro E H locs ls hP hS hl
  exact lv_idiv E.1 E.2.1 hd hn (k E H locs ls hP hS hl)
theorem g_irem {X : GX} {d mi pc : Nat} {lv : List (Option Value)} {t : List Value} {h : Hp} {x y : Int32} (hd : decode (mth mi).2.1 pc = .ok (.irem, 1)) (hn : ¬ y = 0) (k : G X d mi (pc + 1) lv (.int (x - x / y * y) :: t) (h)) : G X d mi pc lv (.int y :: .int x :: t) h := by
  obtain ⟨⟨p, l, e, R, s⟩, ⟨m, args, below, meth, c⟩, Y, ⟨ce, sl, Q, Rt⟩, o⟩ := X
  intro E H locs ls hP hS hl
  exact lv_irem E.1 E.2.1 hd hn (k E H locs ls hP hS hl)
theorem g_iushr {X : GX} {d mi pc : Nat} {lv : List (Option Value)} {t : List Value} {h : Hp} {x y : Int32} (hd : decode (mth mi).2.1 pc = .ok (.iushr, 1))  (k : G X d mi (pc + 1) lv (.int ((x.toUInt32 >>> (y.toUInt32 &&& Int32.toUInt32 31)).toInt32) :: t) (h)) : G X d mi pc lv (.int y :: .int x :: t) h := by
  obtain ⟨⟨p, l, e, R, s⟩, ⟨m, args, below, meth, c⟩, Y, ⟨ce, sl, Q, Rt⟩, o⟩ := X
  intro E H locs ls hP hS hl
  exact lv_iushr E.1 E.2.1 hd rfl (k E H locs ls hP hS hl)
theorem g_ineg {X : GX} {d mi pc : Nat} {lv : List (Option Value)} {t : List Value} {h : Hp} {x : Int32} (hd : decode (mth mi).2.1 pc = .ok (.ineg, 1))  (k : G X d mi (pc + 1) lv (.int (-x) :: t) (h)) : G X d mi pc lv (.int x :: t) h := by
  obtain ⟨⟨p, l, e, R, s⟩, ⟨m, args, below, meth, c⟩, Y, ⟨ce, sl, Q, Rt⟩, o⟩ := X
  intro E H locs ls hP hS hl
  exact lv_ineg E.1 E.2.1 hd (k E H locs ls hP hS hl)
theorem g_ladd {X : GX} {d mi pc : Nat} {lv : List (Option Value)} {t : List Value} {h : Hp} {x y : Int64} (hd : decode (mth mi).2.1 pc = .ok (.ladd, 1))  (k : G X d mi (pc + 1) lv (.long (x + y) :: t) (h)) : G X d mi pc lv (.long y :: .long x :: t) h := by
  obtain ⟨⟨p, l, e, R, s⟩, ⟨m, args, below, meth, c⟩, Y, ⟨ce, sl, Q, Rt⟩, o⟩ := X
  intro E H locs ls hP hS hl
  exact lv_ladd E.1 E.2.1 hd (k E H locs ls hP hS hl)
theorem g_lsub {X : GX} {d mi pc : Nat} {lv : List (Option Value)} {t : List Value} {h : Hp} {x y : Int64} (hd : decode (mth mi).2.1 pc = .ok (.lsub, 1))  (k : G X d mi (pc + 1) lv (.long (x - y) :: t) (h)) : G X d mi pc lv (.long y :: .long x :: t) h := by
  obtain ⟨⟨p, l, e, R, s⟩, ⟨m, args, below, meth, c⟩, Y, ⟨ce, sl, Q, Rt⟩, o⟩ := X
  intro E H locs ls hP hS hl
  exact lv_lsub E.1 E.2.1 hd (k E H locs ls hP hS hl)
theorem g_lmul {X : GX} {d mi pc : Nat} {lv : List (Option Value)} {t : List Value} {h : Hp} {x y : Int64} (hd : decode (mth mi).2.1 pc = .ok (.lmul, 1))  (k : G X d mi (pc + 1) lv (.long (x * y) :: t) (h)) : G X d mi pc lv (.long y :: .long x :: t) h := by
  obtain ⟨⟨p, l, e, R, s⟩, ⟨m, args, below, meth, c⟩, Y, ⟨ce, sl, Q, Rt⟩, o⟩ := X
  intro E H locs ls hP hS hl
  exact lv_lmul E.1 E.2.1 hd (k E H locs ls hP hS hl)
theorem g_land {X : GX} {d mi pc : Nat} {lv : List (Option Value)} {t : List Value} {h : Hp} {x y : Int64} (hd : decode (mth mi).2.1 pc = .ok (.land, 1))  (k : G X d mi (pc + 1) lv (.long (x &&& y) :: t) (h)) : G X d mi pc lv (.long y :: .long x :: t) h := by
  obtain ⟨⟨p, l, e, R, s⟩, ⟨m, args, below, meth, c⟩, Y, ⟨ce, sl, Q, Rt⟩, o⟩ := X
  intro E H locs ls hP hS hl
  exact lv_land E.1 E.2.1 hd (k E H locs ls hP hS hl)
theorem g_lor {X : GX} {d mi pc : Nat} {lv : List (Option Value)} {t : List Value} {h : Hp} {x y : Int64} (hd : decode (mth mi).2.1 pc = .ok (.lor, 1))  (k : G X d mi (pc + 1) lv (.long (x ||| y) :: t) (h)) : G X d mi pc lv (.long y :: .long x :: t) h := by
  obtain ⟨⟨p, l, e, R, s⟩, ⟨m, args, below, meth, c⟩, Y, ⟨ce, sl, Q, Rt⟩, o⟩ := X
  intro E H locs ls hP hS hl
  exact lv_lor E.1 E.2.1 hd (k E H locs ls hP hS hl)
theorem g_lshl {X : GX} {d mi pc : Nat} {lv : List (Option Value)} {t : List Value} {h : Hp} {x : Int64} {y : Int32} (hd : decode (mth mi).2.1 pc = .ok (.lshl, 1))  (k : G X d mi (pc + 1) lv (.long (x <<< (y.toInt64 &&& 63)) :: t) (h)) : G X d mi pc lv (.int y :: .long x :: t) h := by
  obtain ⟨⟨p, l, e, R, s⟩, ⟨m, args, below, meth, c⟩, Y, ⟨ce, sl, Q, Rt⟩, o⟩ := X
  intro E H locs ls hP hS hl
  exact lv_lshl E.1 E.2.1 hd rfl (k E H locs ls hP hS hl)
theorem g_lshr {X : GX} {d mi pc : Nat} {lv : List (Option Value)} {t : List Value} {h : Hp} {x : Int64} {y : Int32} (hd : decode (mth mi).2.1 pc = .ok (.lshr, 1))  (k : G X d mi (pc + 1) lv (.long (x >>> (y.toInt64 &&& 63)) :: t) (h)) : G X d mi pc lv (.int y :: .long x :: t) h := by
  obtain ⟨⟨p, l, e, R, s⟩, ⟨m, args, below, meth, c⟩, Y, ⟨ce, sl, Q, Rt⟩, o⟩ := X
  intro E H locs ls hP hS hl
  exact lv_lshr E.1 E.2.1 hd rfl (k E H locs ls hP hS hl)
theorem g_lushr {X : GX} {d mi pc : Nat} {lv : List (Option Value)} {t : List Value} {h : Hp} {x : Int64} {y : Int32} (hd : decode (mth mi).2.1 pc = .ok (.lushr, 1))  (k : G X d mi (pc + 1) lv (.long ((x.toUInt64 >>> (y.toInt64.toUInt64 &&& Int64.toUInt64 63)).toInt64) :: t) (h)) : G X d mi pc lv (.int y :: .long x :: t) h := by
  obtain ⟨⟨p, l, e, R, s⟩, ⟨m, args, below, meth, c⟩, Y, ⟨ce, sl, Q, Rt⟩, o⟩ := X
  intro E H locs ls hP hS hl
  exact lv_lushr E.1 E.2.1 hd rfl (k E H locs ls hP hS hl)
theorem g_lcmp {X : GX} {d mi pc : Nat} {lv : List (Option Value)} {t : List Value} {h : Hp} {x y : Int64} (hd : decode (mth mi).2.1 pc = .ok (.lcmp, 1))  (k : G X d mi (pc + 1) lv (.int (lg_cmp x y) :: t) (h)) : G X d mi pc lv (.long y :: .long x :: t) h := by
  obtain ⟨⟨p, l, e, R, s⟩, ⟨m, args, below, meth, c⟩, Y, ⟨ce, sl, Q, Rt⟩, o⟩ := X
  intro E H locs ls hP hS hl
  exact W.lcmp E.1 E.2.1 hd (k E H locs ls hP hS hl)
theorem g_i2l {X : GX} {d mi pc : Nat} {lv : List (Option Value)} {t : List Value} {h : Hp} {x : Int32} (hd : decode (mth mi).2.1 pc = .ok (.i2l, 1))  (k : G X d mi (pc + 1) lv (.long (x.toInt64) :: t) (h)) : G X d mi pc lv (.int x :: t) h := by
  obtain ⟨⟨p, l, e, R, s⟩, ⟨m, args, below, meth, c⟩, Y, ⟨ce, sl, Q, Rt⟩, o⟩ := X
  intro E H locs ls hP hS hl
  exact lv_i2l E.1 E.2.1 hd rfl (k E H locs ls hP hS hl)
theorem g_l2i {X : GX} {d mi pc : Nat} {lv : List (Option Value)} {t : List Value} {h : Hp} {x : Int64} (hd : decode (mth mi).2.1 pc = .ok (.l2i, 1))  (k : G X d mi (pc + 1) lv (.int (x.toInt32) :: t) (h)) : G X d mi pc lv (.long x :: t) h := by
  obtain ⟨⟨p, l, e, R, s⟩, ⟨m, args, below, meth, c⟩, Y, ⟨ce, sl, Q, Rt⟩, o⟩ := X
  intro E H locs ls hP hS hl
  exact lv_l2i E.1 E.2.1 hd rfl (k E H locs ls hP hS hl)
theorem g_i2b {X : GX} {d mi pc : Nat} {lv : List (Option Value)} {t : List Value} {h : Hp} {x : Int32} (hd : decode (mth mi).2.1 pc = .ok (.i2b, 1))  (k : G X d mi (pc + 1) lv (.int (x.toInt8.toInt32) :: t) (h)) : G X d mi pc lv (.int x :: t) h := by
  obtain ⟨⟨p, l, e, R, s⟩, ⟨m, args, below, meth, c⟩, Y, ⟨ce, sl, Q, Rt⟩, o⟩ := X
  intro E H locs ls hP hS hl
  exact lv_i2b E.1 E.2.1 hd rfl (k E H locs ls hP hS hl)
theorem g_i2s {X : GX} {d mi pc : Nat} {lv : List (Option Value)} {t : List Value} {h : Hp} {x : Int32} (hd : decode (mth mi).2.1 pc = .ok (.i2s, 1))  (k : G X d mi (pc + 1) lv (.int (x.toInt16.toInt32) :: t) (h)) : G X d mi pc lv (.int x :: t) h := by
  obtain ⟨⟨p, l, e, R, s⟩, ⟨m, args, below, meth, c⟩, Y, ⟨ce, sl, Q, Rt⟩, o⟩ := X
  intro E H locs ls hP hS hl
  exact lv_i2s E.1 E.2.1 hd rfl (k E H locs ls hP hS hl)
theorem cz_cat (ad : Nat → Nat) (v : Value) : (cz ad v).category = v.category := by cases v <;> rfl
theorem g_dup {X : GX} {d mi pc : Nat} {lv : List (Option Value)} {t : List Value} {h : Hp} {u : Value} (hd : decode (mth mi).2.1 pc = .ok (.dup, 1)) (hu : u.category = 1) (k : G X d mi (pc + 1) lv (u :: u :: t) (h)) : G X d mi pc lv (u :: t) h := by
  obtain ⟨⟨p, l, e, R, s⟩, ⟨m, args, below, meth, c⟩, Y, ⟨ce, sl, Q, Rt⟩, o⟩ := X
  intro E H locs ls hP hS hl
  exact lv_dup E.1 E.2.1 hd (by rw [cz_cat]; exact hu) (k E H locs ls hP hS hl)
theorem g_pop {X : GX} {d mi pc : Nat} {lv : List (Option Value)} {t : List Value} {h : Hp} {u : Value} (hd : decode (mth mi).2.1 pc = .ok (.pop, 1)) (hu : u.category = 1) (k : G X d mi (pc + 1) lv (t) (h)) : G X d mi pc lv (u :: t) h := by
  obtain ⟨⟨p, l, e, R, s⟩, ⟨m, args, below, meth, c⟩, Y, ⟨ce, sl, Q, Rt⟩, o⟩ := X
  intro E H locs ls hP hS hl
  exact lv_pop E.1 E.2.1 hd (by rw [cz_cat]; exact hu) (k E H locs ls hP hS hl)
theorem g_dup_x1 {X : GX} {d mi pc : Nat} {lv : List (Option Value)} {t : List Value} {h : Hp} {u v : Value} (hd : decode (mth mi).2.1 pc = .ok (.dup_x1, 1)) (hu : u.category = 1) (hv : v.category = 1) (k : G X d mi (pc + 1) lv (u :: v :: u :: t) (h)) : G X d mi pc lv (u :: v :: t) h := by
  obtain ⟨⟨p, l, e, R, s⟩, ⟨m, args, below, meth, c⟩, Y, ⟨ce, sl, Q, Rt⟩, o⟩ := X
  intro E H locs ls hP hS hl
  exact lv_dup_x1 E.1 E.2.1 hd (by rw [cz_cat]; exact hu) (by rw [cz_cat]; exact hv) (k E H locs ls hP hS hl)
theorem g_dup2 {X : GX} {d mi pc : Nat} {lv : List (Option Value)} {t : List Value} {h : Hp} {u v : Value} (hd : decode (mth mi).2.1 pc = .ok (.dup2, 1)) (hu : u.category = 1) (hv : v.category = 1) (k : G X d mi (pc + 1) lv (u :: v :: u :: v :: t) (h)) : G X d mi pc lv (u :: v :: t) h := by
  obtain ⟨⟨p, l, e, R, s⟩, ⟨m, args, below, meth, c⟩, Y, ⟨ce, sl, Q, Rt⟩, o⟩ := X
  intro E H locs ls hP hS hl
  exact lv_dup2_11 E.1 E.2.1 hd (by rw [cz_cat]; exact hu) (by rw [cz_cat]; exact hv) (k E H locs ls hP hS hl)
theorem g_iconst {X : GX} {d mi pc : Nat} {lv : List (Option Value)} {t : List Value} {h : Hp} {n : Int} {v : Int32} (hd : decode (mth mi).2.1 pc = .ok (.iconst n, 1)) (hv : Int32.ofInt n = v) (k : G X d mi (pc + 1) lv (.int v :: t) (h)) : G X d mi pc lv (t) h := by
  obtain ⟨⟨p, l, e, R, s⟩, ⟨m, args, below, meth, c⟩, Y, ⟨ce, sl, Q, Rt⟩, o⟩ := X
  intro E H locs ls hP hS hl
  exact lv_iconst E.1 E.2.1 hd hv (k E H locs ls hP hS hl)
theorem g_bipush {X : GX} {d mi pc : Nat} {lv : List (Option Value)} {t : List Value} {h : Hp} {n : Int} {v : Int32} (hd : decode (mth mi).2.1 pc = .ok (.bipush n, 2)) (hv : (Int8.ofInt n).toInt32 = v) (k : G X d mi (pc + 2) lv (.int v :: t) (h)) : G X d mi pc lv (t) h := by
  obtain ⟨⟨p, l, e, R, s⟩, ⟨m, args, below, meth, c⟩, Y, ⟨ce, sl, Q, Rt⟩, o⟩ := X
  intro E H locs ls hP hS hl
  exact lv_bipush E.1 E.2.1 hd hv (k E H locs ls hP hS hl)
theorem g_sipush {X : GX} {d mi pc : Nat} {lv : List (Option Value)} {t : List Value} {h : Hp} {n : Int} {v : Int32} (hd : decode (mth mi).2.1 pc = .ok (.sipush n, 3)) (hv : (Int16.ofInt n).toInt32 = v) (k : G X d mi (pc + 3) lv (.int v :: t) (h)) : G X d mi pc lv (t) h := by
  obtain ⟨⟨p, l, e, R, s⟩, ⟨m, args, below, meth, c⟩, Y, ⟨ce, sl, Q, Rt⟩, o⟩ := X
  intro E H locs ls hP hS hl
  exact lv_sipush E.1 E.2.1 hd hv (k E H locs ls hP hS hl)
theorem g_lconst {X : GX} {d mi pc : Nat} {lv : List (Option Value)} {t : List Value} {h : Hp} {n : Fin 2} {v : Int64} (hd : decode (mth mi).2.1 pc = .ok (.lconst n, 1)) (hv : Int64.ofNat (n : Nat) = v) (k : G X d mi (pc + 1) lv (.long v :: t) (h)) : G X d mi pc lv (t) h := by
  obtain ⟨⟨p, l, e, R, s⟩, ⟨m, args, below, meth, c⟩, Y, ⟨ce, sl, Q, Rt⟩, o⟩ := X
  intro E H locs ls hP hS hl
  exact lv_lconst E.1 E.2.1 hd hv (k E H locs ls hP hS hl)
theorem g_ldc {X : GX} {d mi pc : Nat} {lv : List (Option Value)} {t : List Value} {h : Hp} {n : Nat} {v : Int32} (hd : decode (mth mi).2.1 pc = .ok (.ldc n, 2)) (hw : Jvm.Cond.constant (mth mi).1.cls n v ∈ tbl) (k : G X d mi (pc + 2) lv (.int v :: t) (h)) : G X d mi pc lv (t) h := by
  obtain ⟨⟨p, l, e, R, s⟩, ⟨m, args, below, meth, c⟩, Y, ⟨ce, sl, Q, Rt⟩, o⟩ := X
  intro E H locs ls hP hS hl
  exact lv_ldc E.1 E.2.1 E.2.2.2.1 (E.2.2.2.2.1 _ hw) hd (k E H locs ls hP hS hl)
theorem g_ldc_w {X : GX} {d mi pc : Nat} {lv : List (Option Value)} {t : List Value} {h : Hp} {n : Nat} {v : Int32} (hd : decode (mth mi).2.1 pc = .ok (.ldc_w n, 3)) (hw : Jvm.Cond.constant (mth mi).1.cls n v ∈ tbl) (k : G X d mi (pc + 3) lv (.int v :: t) (h)) : G X d mi pc lv (t) h := by
  obtain ⟨⟨p, l, e, R, s⟩, ⟨m, args, below, meth, c⟩, Y, ⟨ce, sl, Q, Rt⟩, o⟩ := X
  intro E H locs ls hP hS hl
  exact lv_ldcw E.1 E.2.1 E.2.2.2.1 (E.2.2.2.2.1 _ hw) hd (k E H locs ls hP hS hl)
theorem g_ldc2_w {X : GX} {d mi pc : Nat} {lv : List (Option Value)} {t : List Value} {h : Hp} {n : Nat} {v : Int64} (hd : decode (mth mi).2.1 pc = .ok (.ldc2_w n, 3)) (hw : Jvm.Cond.constantLong (mth mi).1.cls n v ∈ tbl) (k : G X d mi (pc + 3) lv (.long v :: t) (h)) : G X d mi pc lv (t) h := by
  obtain ⟨⟨p, l, e, R, s⟩, ⟨m, args, below, meth, c⟩, Y, ⟨ce, sl, Q, Rt⟩, o⟩ := X
  intro E H locs ls hP hS hl
  exact lv_ldc2 E.1 E.2.1 E.2.2.2.1 (E.2.2.2.2.1 _ hw) hd (k E H locs ls hP hS hl)
theorem g_iload {X : GX} {d mi pc : Nat} {lv : List (Option Value)} {t : List Value} {h : Hp} {n : Nat} {x : Int32} (hd : decode (mth mi).2.1 pc = .ok (.iload n, 2)) (hx : lg lv n = some (.int x)) (k : G X d mi (pc + 2) lv (.int x :: t) (h)) : G X d mi pc lv (t) h := by
  obtain ⟨⟨p, l, e, R, s⟩, ⟨m, args, below, meth, c⟩, Y, ⟨ce, sl, Q, Rt⟩, o⟩ := X
  intro E H locs ls hP hS hl
  exact lv_iload E.1 E.2.1 hd (hl.2.2 _ _ hx) (k E H locs ls hP hS hl)
theorem g_iload_n {X : GX} {d mi pc : Nat} {lv : List (Option Value)} {t : List Value} {h : Hp} {n : Fin 4} {j : Nat} {x : Int32} (hd : decode (mth mi).2.1 pc = .ok (.iload_n n, 1)) (hj : (n : Nat) = j) (hx : lg lv j = some (.int x)) (k : G X d mi (pc + 1) lv (.int x :: t) (h)) : G X d mi pc lv (t) h := by
  obtain ⟨⟨p, l, e, R, s⟩, ⟨m, args, below, meth, c⟩, Y, ⟨ce, sl, Q, Rt⟩, o⟩ := X
  intro E H locs ls hP hS hl
  exact lv_iload_n E.1 E.2.1 hd hj (hl.2.2 _ _ hx) (k E H locs ls hP hS hl)
theorem g_lload {X : GX} {d mi pc : Nat} {lv : List (Option Value)} {t : List Value} {h : Hp} {n : Nat} {x : Int64} (hd : decode (mth mi).2.1 pc = .ok (.lload n, 2)) (hx : lg lv n = some (.long x)) (k : G X d mi (pc + 2) lv (.long x :: t) (h)) : G X d mi pc lv (t) h := by
  obtain ⟨⟨p, l, e, R, s⟩, ⟨m, args, below, meth, c⟩, Y, ⟨ce, sl, Q, Rt⟩, o⟩ := X
  intro E H locs ls hP hS hl
  exact lv_lload E.1 E.2.1 hd (hl.2.2 _ _ hx) (k E H locs ls hP hS hl)
theorem g_lload_n {X : GX} {d mi pc : Nat} {lv : List (Option Value)} {t : List Value} {h : Hp} {n : Fin 4} {j : Nat} {x : Int64} (hd : decode (mth mi).2.1 pc = .ok (.lload_n n, 1)) (hj : (n : Nat) = j) (hx : lg lv j = some (.long x)) (k : G X d mi (pc + 1) lv (.long x :: t) (h)) : G X d mi pc lv (t) h := by
  obtain ⟨⟨p, l, e, R, s⟩, ⟨m, args, below, meth, c⟩, Y, ⟨ce, sl, Q, Rt⟩, o⟩ := X
  intro E H locs ls hP hS hl
  exact lv_lload_n E.1 E.2.1 hd hj (hl.2.2 _ _ hx) (k E H locs ls hP hS hl)
theorem g_aload {X : GX} {d mi pc : Nat} {lv : List (Option Value)} {t : List Value} {h : Hp} {n : Nat} {x : Nat} (hd : decode (mth mi).2.1 pc = .ok (.aload n, 2)) (hx : lg lv n = some (.ref x)) (k : G X d mi (pc + 2) lv (.ref x :: t) (h)) : G X d mi pc lv (t) h := by
  obtain ⟨⟨p, l, e, R, s⟩, ⟨m, args, below, meth, c⟩, Y, ⟨ce, sl, Q, Rt⟩, o⟩ := X
  intro E H locs ls hP hS hl
  exact lv_aload E.1 E.2.1 hd (hl.2.2 _ _ hx) (k E H locs ls hP hS hl)
theorem g_aload_n {X : GX} {d mi pc : Nat} {lv : List (Option Value)} {t : List Value} {h : Hp} {n : Fin 4} {j : Nat} {x : Nat} (hd : decode (mth mi).2.1 pc = .ok (.aload_n n, 1)) (hj : (n : Nat) = j) (hx : lg lv j = some (.ref x)) (k : G X d mi (pc + 1) lv (.ref x :: t) (h)) : G X d mi pc lv (t) h := by
  obtain ⟨⟨p, l, e, R, s⟩, ⟨m, args, below, meth, c⟩, Y, ⟨ce, sl, Q, Rt⟩, o⟩ := X
  intro E H locs ls hP hS hl
  exact lv_aload_n E.1 E.2.1 hd hj (hl.2.2 _ _ hx) (k E H locs ls hP hS hl)
def lvP (ad : Nat → Nat) (lv : List (Option Value)) : List (Nat × Value) := (List.range lv.length).filterMap (fun i => (lg lv i).map (fun v => (i, cz ad v)))
theorem lg_lt : ∀ {lv : List (Option Value)} {i : Nat} {v : Value}, lg lv i = some v → i < lv.length
  | [], _, _, h => by cases h
  | _ :: _, 0, _, _ => Nat.zero_lt_succ _
  | _ :: t, n + 1, v, h => Nat.succ_lt_succ (lg_lt (lv := t) (i := n) (v := v) h)
theorem lvP_mem {ad : Nat → Nat} {lv : List (Option Value)} {i : Nat} {v : Value} (h : lg lv i = some v) : (i, cz ad v) ∈ lvP ad lv := by
  unfold lvP
  rw [List.mem_filterMap]
  exact ⟨i, List.mem_range.mpr (lg_lt h), by rw [h]; rfl⟩
theorem lvR.has {ad : Nat → Nat} {ls : Array Slot} {nL : Nat} {lv : List (Option Value)} (h : lvR ad ls nL lv) : lv_has ls nL (lvP ad lv) := by
  refine ⟨h.1, h.2.1, fun q hq => ?_⟩
  unfold lvP at hq
  rw [List.mem_filterMap] at hq
  obtain ⟨i, -, hi⟩ := hq
  cases hv : lg lv i with
  | none => rw [hv] at hi; cases hi
  | some v =>
    rw [hv] at hi
    cases hi
    exact h.2.2 i v hv
theorem lst_lg : ∀ {lv : List (Option Value)} {i j : Nat} {x : Option Value} {v : Value}, lg (lst lv i x) j = some v → (j = i ∧ x = some v) ∨ (j ≠ i ∧ lg lv j = some v)
  | [], _, _, _, _, h => by cases h
  | _ :: _, 0, 0, _, _, h => Or.inl ⟨rfl, h⟩
  | _ :: _, 0, _ + 1, _, _, h => Or.inr ⟨by omega, h⟩
  | _ :: _, _ + 1, 0, _, _, h => Or.inr ⟨by omega, h⟩
  | _ :: t, i + 1, j + 1, x, v, h => by
    rcases lst_lg (lv := t) (i := i) (j := j) (x := x) (v := v) h with ⟨a, b⟩ | ⟨a, b⟩
    · exact Or.inl ⟨by omega, b⟩
    · exact Or.inr ⟨by omega, b⟩
theorem lvR.put {ad : Nat → Nat} {ls : Array Slot} {nL i : Nat} {lv : List (Option Value)} {x : Value} (hn : npl lv i = true) (h : lv_has ls nL ((i, cz ad x) :: (lvP ad lv).filter (fun q => !(q.1 == i) && !(q.1 + 1 == i && q.2.category == 2)))) : lvR ad ls nL (lst lv i (some x)) := by
  refine ⟨h.1, h.2.1, fun j v hj => ?_⟩
  rcases lst_lg hj with ⟨a, b⟩ | ⟨a, b⟩
  · cases b
    subst a
    exact h.2.2 (j, cz ad x) List.mem_cons_self
  · refine h.2.2 (j, cz ad v) (List.mem_cons_of_mem _ (List.mem_filter.mpr ⟨lvP_mem b, ?_⟩))
    rw [cz_cat]
    have h1 : (j == i) = false := by simp [a]
    rw [h1]
    by_cases e : j + 1 = i
    · subst e
      have h2 : v.category = 1 := by
        have := hn
        unfold npl at this
        simp only [b] at this
        simpa using this
      simp [h2]
    · simp [e]
theorem lvR.le {ad : Nat → Nat} {ls : Array Slot} {nL : Nat} {lv lv' : List (Option Value)} (h : lvR ad ls nL lv) (hs : ∀ (i : Nat) (v : Value), lg lv' i = some v → lg lv i = some v) : lvR ad ls nL lv' := ⟨h.1, h.2.1, fun i v hi => h.2.2 i v (hs i v hi)⟩
theorem g_istore {X : GX} {d mi pc : Nat} {lv : List (Option Value)} {t : List Value} {h : Hp} {n : Nat} {x : Int32} (hd : decode (mth mi).2.1 pc = .ok (.istore n, 2)) (hn : n < (mth mi).2.2.1) (hp : npl lv n = true) (k : G X d mi (pc + 2) (lst lv n (some (.int x))) (t) (h)) : G X d mi pc lv (.int x :: t) h := by
  obtain ⟨⟨p, l, e, R, s⟩, ⟨m, args, below, meth, c⟩, Y, ⟨ce, sl, Q, Rt⟩, o⟩ := X
  intro E H locs ls hP hS hl
  exact lv_istore E.1 E.2.1 hd hl.has hn rfl (fun ls' h' => k E H locs ls' hP hS (lvR.put (x := .int x) hp h'))
theorem g_istore_n {X : GX} {d mi pc : Nat} {lv : List (Option Value)} {t : List Value} {h : Hp} {n : Fin 4} {j : Nat} {x : Int32} (hd : decode (mth mi).2.1 pc = .ok (.istore_n n, 1)) (hj : (n : Nat) = j) (hn : j < (mth mi).2.2.1) (hp : npl lv j = true) (k : G X d mi (pc + 1) (lst lv j (some (.int x))) (t) (h)) : G X d mi pc lv (.int x :: t) h := by
  obtain ⟨⟨p, l, e, R, s⟩, ⟨m, args, below, meth, c⟩, Y, ⟨ce, sl, Q, Rt⟩, o⟩ := X
  intro E H locs ls hP hS hl
  exact lv_istore_n E.1 E.2.1 hd hj hl.has hn rfl (fun ls' h' => k E H locs ls' hP hS (lvR.put (x := .int x) hp h'))
theorem g_astore {X : GX} {d mi pc : Nat} {lv : List (Option Value)} {t : List Value} {h : Hp} {n : Nat} {x : Nat} (hd : decode (mth mi).2.1 pc = .ok (.astore n, 2)) (hn : n < (mth mi).2.2.1) (hp : npl lv n = true) (k : G X d mi (pc + 2) (lst lv n (some (.ref x))) (t) (h)) : G X d mi pc lv (.ref x :: t) h := by
  obtain ⟨⟨p, l, e, R, s⟩, ⟨m, args, below, meth, c⟩, Y, ⟨ce, sl, Q, Rt⟩, o⟩ := X
  intro E H locs ls hP hS hl
  exact lv_astore E.1 E.2.1 hd hl.has hn rfl (fun ls' h' => k E H locs ls' hP hS (lvR.put (x := .ref x) hp h'))
theorem g_astore_n {X : GX} {d mi pc : Nat} {lv : List (Option Value)} {t : List Value} {h : Hp} {n : Fin 4} {j : Nat} {x : Nat} (hd : decode (mth mi).2.1 pc = .ok (.astore_n n, 1)) (hj : (n : Nat) = j) (hn : j < (mth mi).2.2.1) (hp : npl lv j = true) (k : G X d mi (pc + 1) (lst lv j (some (.ref x))) (t) (h)) : G X d mi pc lv (.ref x :: t) h := by
  obtain ⟨⟨p, l, e, R, s⟩, ⟨m, args, below, meth, c⟩, Y, ⟨ce, sl, Q, Rt⟩, o⟩ := X
  intro E H locs ls hP hS hl
  exact lv_astore_n E.1 E.2.1 hd hj hl.has hn rfl (fun ls' h' => k E H locs ls' hP hS (lvR.put (x := .ref x) hp h'))
theorem g_iinc {X : GX} {d mi pc : Nat} {lv : List (Option Value)} {t : List Value} {h : Hp} {n : Nat} {z : Int} {x w : Int32} (hd : decode (mth mi).2.1 pc = .ok (.iinc n z, 3)) (hx : lg lv n = some (.int x)) (hz : Int32.ofInt z = w) (hn : n < (mth mi).2.2.1) (hp : npl lv n = true) (k : G X d mi (pc + 3) (lst lv n (some (.int (x + w)))) t h) : G X d mi pc lv t h := by
  obtain ⟨⟨p, l, e, R, s⟩, ⟨m, args, below, meth, c⟩, Y, ⟨ce, sl, Q, Rt⟩, o⟩ := X
  intro E H locs ls hP hS hl
  obtain ⟨q, hq⟩ := List.getElem?_of_mem (lvP_mem (ad := Y.1) hx)
  exact lv_iinc (v := x + w) E.1 E.2.1 hd hl.has (k := q) hq (by rw [hz]) hn rfl (fun ls' h' => k E H locs ls' hP hS (lvR.put (x := .int (x + w)) hp h'))
theorem g_icmp_eq {X : GX} {d mi pc : Nat} {lv : List (Option Value)} {t : List Value} {h : Hp} {x y : Int32} {off : Int} {tgt : Nat} (hd : decode (mth mi).2.1 pc = .ok (.if_icmp .eq off, 3)) (ht : (pc : Int) + off = (tgt : Int)) (kt : x = y → G X d mi tgt lv t h) (kf : ¬ x = y → G X d mi (pc + 3) lv t h) : G X d mi pc lv (.int y :: .int x :: t) h := by
  obtain ⟨⟨p, l, e, R, s⟩, ⟨m, args, below, meth, c⟩, Y, ⟨ce, sl, Q, Rt⟩, o⟩ := X
  intro E H locs ls hP hS hl
  exact lv_icmp_eq E.1 E.2.1 hd ht (fun q => kt q E H locs ls hP hS hl) (fun q => kf q E H locs ls hP hS hl)
theorem g_icmp_ne {X : GX} {d mi pc : Nat} {lv : List (Option Value)} {t : List Value} {h : Hp} {x y : Int32} {off : Int} {tgt : Nat} (hd : decode (mth mi).2.1 pc = .ok (.if_icmp .ne off, 3)) (ht : (pc : Int) + off = (tgt : Int)) (kt : ¬ x = y → G X d mi tgt lv t h) (kf : x = y → G X d mi (pc + 3) lv t h) : G X d mi pc lv (.int y :: .int x :: t) h := by
  obtain ⟨⟨p, l, e, R, s⟩, ⟨m, args, below, meth, c⟩, Y, ⟨ce, sl, Q, Rt⟩, o⟩ := X
  intro E H locs ls hP hS hl
  exact lv_icmp_ne E.1 E.2.1 hd ht (fun q => kt q E H locs ls hP hS hl) (fun q => kf q E H locs ls hP hS hl)
theorem g_icmp_lt {X : GX} {d mi pc : Nat} {lv : List (Option Value)} {t : List Value} {h : Hp} {x y : Int32} {off : Int} {tgt : Nat} (hd : decode (mth mi).2.1 pc = .ok (.if_icmp .lt off, 3)) (ht : (pc : Int) + off = (tgt : Int)) (kt : x < y → G X d mi tgt lv t h) (kf : ¬ x < y → G X d mi (pc + 3) lv t h) : G X d mi pc lv (.int y :: .int x :: t) h := by
  obtain ⟨⟨p, l, e, R, s⟩, ⟨m, args, below, meth, c⟩, Y, ⟨ce, sl, Q, Rt⟩, o⟩ := X
  intro E H locs ls hP hS hl
  exact lv_icmp_lt E.1 E.2.1 hd ht (fun q => kt q E H locs ls hP hS hl) (fun q => kf q E H locs ls hP hS hl)
theorem g_icmp_ge {X : GX} {d mi pc : Nat} {lv : List (Option Value)} {t : List Value} {h : Hp} {x y : Int32} {off : Int} {tgt : Nat} (hd : decode (mth mi).2.1 pc = .ok (.if_icmp .ge off, 3)) (ht : (pc : Int) + off = (tgt : Int)) (kt : y ≤ x → G X d mi tgt lv t h) (kf : ¬ y ≤ x → G X d mi (pc + 3) lv t h) : G X d mi pc lv (.int y :: .int x :: t) h := by
  obtain ⟨⟨p, l, e, R, s⟩, ⟨m, args, below, meth, c⟩, Y, ⟨ce, sl, Q, Rt⟩, o⟩ := X
  intro E H locs ls hP hS hl
  exact lv_icmp_ge E.1 E.2.1 hd ht (fun q => kt q E H locs ls hP hS hl) (fun q => kf q E H locs ls hP hS hl)
theorem g_icmp_gt {X : GX} {d mi pc : Nat} {lv : List (Option Value)} {t : List Value} {h : Hp} {x y : Int32} {off : Int} {tgt : Nat} (hd : decode (mth mi).2.1 pc = .ok (.if_icmp .gt off, 3)) (ht : (pc : Int) + off = (tgt : Int)) (kt : y < x → G X d mi tgt lv t h) (kf : ¬ y < x → G X d mi (pc + 3) lv t h) : G X d mi pc lv (.int y :: .int x :: t) h := by
  obtain ⟨⟨p, l, e, R, s⟩, ⟨m, args, below, meth, c⟩, Y, ⟨ce, sl, Q, Rt⟩, o⟩ := X
  intro E H locs ls hP hS hl
  exact lv_icmp_gt E.1 E.2.1 hd ht (fun q => kt q E H locs ls hP hS hl) (fun q => kf q E H locs ls hP hS hl)
theorem g_icmp_le {X : GX} {d mi pc : Nat} {lv : List (Option Value)} {t : List Value} {h : Hp} {x y : Int32} {off : Int} {tgt : Nat} (hd : decode (mth mi).2.1 pc = .ok (.if_icmp .le off, 3)) (ht : (pc : Int) + off = (tgt : Int)) (kt : x ≤ y → G X d mi tgt lv t h) (kf : ¬ x ≤ y → G X d mi (pc + 3) lv t h) : G X d mi pc lv (.int y :: .int x :: t) h := by
  obtain ⟨⟨p, l, e, R, s⟩, ⟨m, args, below, meth, c⟩, Y, ⟨ce, sl, Q, Rt⟩, o⟩ := X
  intro E H locs ls hP hS hl
  exact lv_icmp_le E.1 E.2.1 hd ht (fun q => kt q E H locs ls hP hS hl) (fun q => kf q E H locs ls hP hS hl)
theorem g_if_eq {X : GX} {d mi pc : Nat} {lv : List (Option Value)} {t : List Value} {h : Hp} {x : Int32} {off : Int} {tgt : Nat} (hd : decode (mth mi).2.1 pc = .ok (.ifCond .eq off, 3)) (ht : (pc : Int) + off = (tgt : Int)) (kt : x = 0 → G X d mi tgt lv t h) (kf : ¬ x = 0 → G X d mi (pc + 3) lv t h) : G X d mi pc lv (.int x :: t) h := by
  obtain ⟨⟨p, l, e, R, s⟩, ⟨m, args, below, meth, c⟩, Y, ⟨ce, sl, Q, Rt⟩, o⟩ := X
  intro E H locs ls hP hS hl
  exact lv_if_eq E.1 E.2.1 hd ht (fun q => kt q E H locs ls hP hS hl) (fun q => kf q E H locs ls hP hS hl)
theorem g_if_ne {X : GX} {d mi pc : Nat} {lv : List (Option Value)} {t : List Value} {h : Hp} {x : Int32} {off : Int} {tgt : Nat} (hd : decode (mth mi).2.1 pc = .ok (.ifCond .ne off, 3)) (ht : (pc : Int) + off = (tgt : Int)) (kt : ¬ x = 0 → G X d mi tgt lv t h) (kf : x = 0 → G X d mi (pc + 3) lv t h) : G X d mi pc lv (.int x :: t) h := by
  obtain ⟨⟨p, l, e, R, s⟩, ⟨m, args, below, meth, c⟩, Y, ⟨ce, sl, Q, Rt⟩, o⟩ := X
  intro E H locs ls hP hS hl
  exact lv_if_ne E.1 E.2.1 hd ht (fun q => kt q E H locs ls hP hS hl) (fun q => kf q E H locs ls hP hS hl)
theorem g_if_lt {X : GX} {d mi pc : Nat} {lv : List (Option Value)} {t : List Value} {h : Hp} {x : Int32} {off : Int} {tgt : Nat} (hd : decode (mth mi).2.1 pc = .ok (.ifCond .lt off, 3)) (ht : (pc : Int) + off = (tgt : Int)) (kt : x < 0 → G X d mi tgt lv t h) (kf : ¬ x < 0 → G X d mi (pc + 3) lv t h) : G X d mi pc lv (.int x :: t) h := by
  obtain ⟨⟨p, l, e, R, s⟩, ⟨m, args, below, meth, c⟩, Y, ⟨ce, sl, Q, Rt⟩, o⟩ := X
  intro E H locs ls hP hS hl
  exact lv_if_lt E.1 E.2.1 hd ht (fun q => kt q E H locs ls hP hS hl) (fun q => kf q E H locs ls hP hS hl)
theorem g_if_ge {X : GX} {d mi pc : Nat} {lv : List (Option Value)} {t : List Value} {h : Hp} {x : Int32} {off : Int} {tgt : Nat} (hd : decode (mth mi).2.1 pc = .ok (.ifCond .ge off, 3)) (ht : (pc : Int) + off = (tgt : Int)) (kt : 0 ≤ x → G X d mi tgt lv t h) (kf : ¬ 0 ≤ x → G X d mi (pc + 3) lv t h) : G X d mi pc lv (.int x :: t) h := by
  obtain ⟨⟨p, l, e, R, s⟩, ⟨m, args, below, meth, c⟩, Y, ⟨ce, sl, Q, Rt⟩, o⟩ := X
  intro E H locs ls hP hS hl
  exact lv_if_ge E.1 E.2.1 hd ht (fun q => kt q E H locs ls hP hS hl) (fun q => kf q E H locs ls hP hS hl)
theorem g_if_gt {X : GX} {d mi pc : Nat} {lv : List (Option Value)} {t : List Value} {h : Hp} {x : Int32} {off : Int} {tgt : Nat} (hd : decode (mth mi).2.1 pc = .ok (.ifCond .gt off, 3)) (ht : (pc : Int) + off = (tgt : Int)) (kt : 0 < x → G X d mi tgt lv t h) (kf : ¬ 0 < x → G X d mi (pc + 3) lv t h) : G X d mi pc lv (.int x :: t) h := by
  obtain ⟨⟨p, l, e, R, s⟩, ⟨m, args, below, meth, c⟩, Y, ⟨ce, sl, Q, Rt⟩, o⟩ := X
  intro E H locs ls hP hS hl
  exact lv_if_gt E.1 E.2.1 hd ht (fun q => kt q E H locs ls hP hS hl) (fun q => kf q E H locs ls hP hS hl)
theorem g_if_le {X : GX} {d mi pc : Nat} {lv : List (Option Value)} {t : List Value} {h : Hp} {x : Int32} {off : Int} {tgt : Nat} (hd : decode (mth mi).2.1 pc = .ok (.ifCond .le off, 3)) (ht : (pc : Int) + off = (tgt : Int)) (kt : x ≤ 0 → G X d mi tgt lv t h) (kf : ¬ x ≤ 0 → G X d mi (pc + 3) lv t h) : G X d mi pc lv (.int x :: t) h := by
  obtain ⟨⟨p, l, e, R, s⟩, ⟨m, args, below, meth, c⟩, Y, ⟨ce, sl, Q, Rt⟩, o⟩ := X
  intro E H locs ls hP hS hl
  exact lv_if_le E.1 E.2.1 hd ht (fun q => kt q E H locs ls hP hS hl) (fun q => kf q E H locs ls hP hS hl)
theorem g_goto {X : GX} {d mi pc : Nat} {lv : List (Option Value)} {t : List Value} {h : Hp} {off : Int} {tgt : Nat} (hd : decode (mth mi).2.1 pc = .ok (.goto off, 3)) (ht : (pc : Int) + off = (tgt : Int)) (k : G X d mi tgt lv t h) : G X d mi pc lv t h := by
  obtain ⟨⟨p, l, e, R, s⟩, ⟨m, args, below, meth, c⟩, Y, ⟨ce, sl, Q, Rt⟩, o⟩ := X
  intro E H locs ls hP hS hl
  exact lv_goto E.1 E.2.1 hd ht (k E H locs ls hP hS hl)
/-- a switch's targets, one after the other -/
def swc (x : Int32) (df : Nat) (K : Nat → Prop) : List (Int32 × Nat) → Prop
  | [] => K df
  | q :: r => (x = q.1 → K q.2) ∧ (¬ x = q.1 → swc x df K r)
def swt (x : Int32) (df : Nat) : List (Int32 × Nat) → Nat
  | [] => df
  | q :: r => if x = q.1 then q.2 else swt x df r
theorem swc_t {x : Int32} {df : Nat} {K : Nat → Prop} : ∀ {l : List (Int32 × Nat)}, swc x df K l → K (swt x df l)
  | [], h => h
  | q :: r, h => by
    unfold swt
    by_cases e : x = q.1
    · rw [if_pos e]; exact h.1 e
    · rw [if_neg e]; exact swc_t (h.2 e)
theorem swt_mem {x : Int32} {df : Nat} : ∀ {l : List (Int32 × Nat)}, (∃ q ∈ l, q.1 = x ∧ swt x df l = q.2) ∨ ((∀ q ∈ l, q.1 ≠ x) ∧ swt x df l = df)
  | [] => Or.inr ⟨fun _ h => absurd h List.not_mem_nil, rfl⟩
  | q :: r => by
    unfold swt
    by_cases e : x = q.1
    · rw [if_pos e]; exact Or.inl ⟨q, List.mem_cons_self, e.symm, rfl⟩
    · rw [if_neg e]
      rcases swt_mem (x := x) (df := df) (l := r) with ⟨y, h1, h2, h3⟩ | ⟨h1, h2⟩
      · exact Or.inl ⟨y, List.mem_cons_of_mem _ h1, h2, h3⟩
      · refine Or.inr ⟨fun y hy => ?_, h2⟩
        rcases List.mem_cons.mp hy with rfl | hy
        · exact fun z => e z.symm
        · exact h1 y hy
/-- the list of a tableswitch, as its rows say -/
def tbOk (pc : Nat) (dflt lo hi : Int) (offs : Array Int) (l : List (Int32 × Nat)) (df : Nat) : Bool :=
  decide ((pc : Int) + dflt = (df : Int)) && l.all (fun q => decide (lo ≤ q.1.toInt) && decide (q.1.toInt ≤ hi) && decide (offs[(q.1.toInt - lo).toNat]?.map (fun z => (pc : Int) + z) = some (q.2 : Int))) && (List.range (hi - lo + 1).toNat).all (fun j => l.any (fun q => decide (q.1.toInt = lo + (j : Int))))
theorem g_table {X : GX} {d mi pc : Nat} {lv : List (Option Value)} {t : List Value} {h : Hp} {dflt lo hi : Int} {offs : Array Int} {len df : Nat} {x : Int32} {tls : List (Int32 × Nat)} (hd : decode (mth mi).2.1 pc = .ok (.tableswitch dflt lo hi offs, len)) (ht : tbOk pc dflt lo hi offs tls df = true) (k : swc x df (fun q => G X d mi q lv t h) tls) : G X d mi pc lv (.int x :: t) h := by
  have k2 := swc_t k
  unfold tbOk at ht
  simp only [Bool.and_eq_true, List.all_eq_true, List.any_eq_true, decide_eq_true_eq, List.mem_range] at ht
  obtain ⟨⟨h1, h2⟩, h3⟩ := ht
  obtain ⟨⟨p, l, e, R, s⟩, ⟨m, args, below, meth, c⟩, Y, ⟨ce, sl, Q, Rt⟩, o⟩ := X
  intro E H locs ls hP hS hl
  rcases swt_mem (x := x) (df := df) (l := tls) with ⟨q, a, b, e2⟩ | ⟨a, e2⟩
  · rw [e2] at k2
    subst b
    obtain ⟨⟨c1, c2⟩, c3⟩ := h2 q a
    cases ho : offs[(q.1.toInt - lo).toNat]? with
    | none => rw [ho] at c3; cases c3
    | some z =>
      rw [ho] at c3
      exact lv_tableIn E.1 E.2.1 hd (by omega) (by omega) ho (Option.some.inj c3) (k2 E H locs ls hP hS hl)
  · rw [e2] at k2
    refine lv_tableOut E.1 E.2.1 hd ?_ h1 (k2 E H locs ls hP hS hl)
    rcases (show x.toInt < lo ∨ lo ≤ x.toInt by omega) with g | g
    · exact Or.inl g
    rcases (show hi < x.toInt ∨ x.toInt ≤ hi by omega) with g2 | g2
    · exact Or.inr g2
    · exfalso
      obtain ⟨q, hq, hv⟩ := h3 (x.toInt - lo).toNat (by omega)
      exact a q hq (Int32.toInt_inj.mp (by rw [hv]; omega))
def luOk (pc : Nat) (dflt : Int) (ps : Array (Int × Int)) (l : List (Int32 × Nat)) (df : Nat) : Bool :=
  decide ((pc : Int) + dflt = (df : Int)) && (ps.toList.zip (ps.toList.drop 1)).all (fun (a, next) => decide (a.1 < next.1)) && decide (ps.toList.map (fun z => (z.1, (pc : Int) + z.2)) = l.map (fun q => (q.1.toInt, (q.2 : Int))))
theorem lu_off {x : Int32} {dflt : Int} {df pc : Nat} (hdf : (pc : Int) + dflt = (df : Int)) : ∀ {ps : List (Int × Int)} {l : List (Int32 × Nat)}, ps.map (fun z => (z.1, (pc : Int) + z.2)) = l.map (fun q => (q.1.toInt, (q.2 : Int))) → (pc : Int) + Op.lookupswitch.offset ps dflt x.toInt = (swt x df l : Int)
  | [], [], _ => by simpa [Op.lookupswitch.offset, swt] using hdf
  | [], _ :: _, h => by cases h
  | _ :: _, [], h => by cases h
  | z :: ps, q :: l, h => by
    simp only [List.map_cons, List.cons.injEq, Prod.mk.injEq] at h
    obtain ⟨⟨h1, h2⟩, h3⟩ := h
    have ih := lu_off (x := x) (dflt := dflt) hdf h3
    obtain ⟨a, b⟩ := z
    dsimp only at h1 h2
    unfold swt
    by_cases e : x = q.1
    · rw [if_pos e]
      subst e
      simp [Op.lookupswitch.offset, h1, h2]
    · rw [if_neg e]
      rw [lv_osw e h1.symm]
      exact ih
theorem g_lookup {X : GX} {d mi pc : Nat} {lv : List (Option Value)} {t : List Value} {h : Hp} {dflt : Int} {ps : Array (Int × Int)} {len df : Nat} {x : Int32} {tls : List (Int32 × Nat)} (hd : decode (mth mi).2.1 pc = .ok (.lookupswitch dflt ps, len)) (ht : luOk pc dflt ps tls df = true) (k : swc x df (fun q => G X d mi q lv t h) tls) : G X d mi pc lv (.int x :: t) h := by
  have k2 := swc_t k
  unfold luOk at ht
  simp only [Bool.and_eq_true, decide_eq_true_eq] at ht
  obtain ⟨⟨h1, h2⟩, h3⟩ := ht
  obtain ⟨⟨p, l, e, R, s⟩, ⟨m, args, below, meth, c⟩, Y, ⟨ce, sl, Q, Rt⟩, o⟩ := X
  intro E H locs ls hP hS hl
  exact lv_lookup E.1 E.2.1 hd h2 rfl (lu_off h1 h3) (k2 E H locs ls hP hS hl)
