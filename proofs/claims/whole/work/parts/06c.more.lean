/-! part 06c: calls by what they answer; locals that are dead -/
theorem g_callVI {X : GX} {d mi pc : Nat} {lv : List (Option Value)} {h : Hp} {n b mj d' : Nat} (ci : Nat) (As t : List Value) {Q' : Int32 → Hp → Prop} (hd : decode (mth mi).2.1 pc = .ok (.invokevirtual n, 3)) (hw : Jvm.Cond.methodLink (mth mi).1.cls n (mth mj).1 ∈ tbl) (hm : mOk mj = true) (hmi : mIn mj) (hmw : mWd mj) (hkd : (mw mj).1 = 1) (hci : cnF ci = (mth mj).1.cls) (hlen : As.length = (mw mj).2) (hcat : (t.map fun v => v.category).sum ≤ 8) (hb : sh b = (1, ci)) (hdd : d' < d) (hC : CI d' mj (.ref b :: As) h Q') (kk : ∀ x h', Q' x h' → G X d mi (pc + 3) lv (.int x :: t) h') : G X d mi pc lv (As.reverse ++ .ref b :: t) h :=
  g_callV hd hw hm hmi hmw hkd hci hb hlen hcat hdd hC (fun r h' q => by obtain ⟨x, rfl, q⟩ := q; exact kk x h' q)
theorem g_callVV {X : GX} {d mi pc : Nat} {lv : List (Option Value)} {h : Hp} {n b mj d' : Nat} (ci : Nat) (As t : List Value) {Q' : Hp → Prop} (hd : decode (mth mi).2.1 pc = .ok (.invokevirtual n, 3)) (hw : Jvm.Cond.methodLink (mth mi).1.cls n (mth mj).1 ∈ tbl) (hm : mOk mj = true) (hmi : mIn mj) (hmw : mWd mj) (hkd : (mw mj).1 = 1) (hci : cnF ci = (mth mj).1.cls) (hlen : As.length = (mw mj).2) (hcat : (t.map fun v => v.category).sum ≤ 8) (hb : sh b = (1, ci)) (hdd : d' < d) (hC : CV d' mj (.ref b :: As) h Q') (kk : ∀ h', Q' h' → G X d mi (pc + 3) lv t h') : G X d mi pc lv (As.reverse ++ .ref b :: t) h :=
  g_callV hd hw hm hmi hmw hkd hci hb hlen hcat hdd hC (fun r h' q => by obtain ⟨rfl, q⟩ := q; exact kk h' q)
theorem g_callVR {X : GX} {d mi pc : Nat} {lv : List (Option Value)} {h : Hp} {n b mj d' : Nat} (ci : Nat) (As t : List Value) {Q' : Nat → Hp → Prop} (hd : decode (mth mi).2.1 pc = .ok (.invokevirtual n, 3)) (hw : Jvm.Cond.methodLink (mth mi).1.cls n (mth mj).1 ∈ tbl) (hm : mOk mj = true) (hmi : mIn mj) (hmw : mWd mj) (hkd : (mw mj).1 = 1) (hci : cnF ci = (mth mj).1.cls) (hlen : As.length = (mw mj).2) (hcat : (t.map fun v => v.category).sum ≤ 8) (hb : sh b = (1, ci)) (hdd : d' < d) (hC : CR d' mj (.ref b :: As) h Q') (kk : ∀ x h', Q' x h' → G X d mi (pc + 3) lv (.ref x :: t) h') : G X d mi pc lv (As.reverse ++ .ref b :: t) h :=
  g_callV hd hw hm hmi hmw hkd hci hb hlen hcat hdd hC (fun r h' q => by obtain ⟨x, rfl, q⟩ := q; exact kk x h' q)
theorem g_callSI {X : GX} {d mi pc : Nat} {lv : List (Option Value)} {h : Hp} {n mj d' : Nat} (As t : List Value) {Q' : Int32 → Hp → Prop} (hd : decode (mth mi).2.1 pc = .ok (.invokestatic n, 3)) (hw : Jvm.Cond.methodLink (mth mi).1.cls n (mth mj).1 ∈ tbl) (hm : mOk mj = true) (hmi : mIn mj) (hmw : mWd mj) (hkd : (mw mj).1 = 0) (hlen : As.length = (mw mj).2) (hcat : (t.map fun v => v.category).sum ≤ 8) (hdd : d' < d) (hC : CI d' mj As h Q') (kk : ∀ x h', Q' x h' → G X d mi (pc + 3) lv (.int x :: t) h') : G X d mi pc lv (As.reverse ++ t) h :=
  g_callS hd hw hm hmi hmw hkd hlen hcat hdd hC (fun r h' q => by obtain ⟨x, rfl, q⟩ := q; exact kk x h' q)
def msk : List Bool → List (Option Value) → List (Option Value)
  | [], _ => []
  | _ :: _, [] => []
  | true :: b, x :: t => x :: msk b t
  | false :: b, _ :: t => none :: msk b t
theorem msk_lg : ∀ {b : List Bool} {lv : List (Option Value)} {i : Nat} {v : Value}, lg (msk b lv) i = some v → lg lv i = some v
  | [], _, _, _, h => by cases h
  | _ :: _, [], _, _, h => by cases h
  | true :: _, _ :: _, 0, _, h => h
  | true :: b, _ :: t, i + 1, v, h => msk_lg (b := b) (lv := t) (i := i) (v := v) h
  | false :: _, _ :: _, 0, _, h => by cases h
  | false :: b, _ :: t, i + 1, v, h => msk_lg (b := b) (lv := t) (i := i) (v := v) h
theorem g_mask {X : GX} {d mi pc : Nat} {lv : List (Option Value)} {t : List Value} {h : Hp} (b : List Bool) (k : G X d mi pc (msk b lv) t h) : G X d mi pc lv t h := g_le (fun _ _ q => msk_lg q) k
theorem g_reti {X : GX} {d mi pc : Nat} {lv : List (Option Value)} {h : Hp} {x : Int32} (hd : decode (mth mi).2.1 pc = .ok (.ireturn, 1)) (hr : (mth mi).2.2.2 = some .int) (hq : RtX X (some (.int x)) h) : G X d mi pc lv [.int x] h := g_ret (r := some (.int x)) hd (by unfold rok; rw [hr]; trivial) hq
theorem g_retz {X : GX} {d mi pc : Nat} {lv : List (Option Value)} {h : Hp} {x : Int32} (hd : decode (mth mi).2.1 pc = .ok (.ireturn, 1)) (hr : (mth mi).2.2.2 = some .boolean) (hx : x = 0 ∨ x = 1) (hq : RtX X (some (.int x)) h) : G X d mi pc lv [.int x] h := g_ret (r := some (.int x)) hd (by unfold rok; rw [hr]; exact hx) hq
theorem g_retv {X : GX} {d mi pc : Nat} {lv : List (Option Value)} {h : Hp} (hd : decode (mth mi).2.1 pc = .ok (.return_, 1)) (hr : (mth mi).2.2.2 = none) (hq : RtX X none h) : G X d mi pc lv [] h := g_ret (r := none) hd (by unfold rok; rw [hr]; trivial) hq
theorem g_reta {X : GX} {d mi pc a : Nat} {lv : List (Option Value)} {h : Hp} {C : String} (hd : decode (mth mi).2.1 pc = .ok (.areturn, 1)) (hr : (mth mi).2.2.2 = some (.object C)) (hq : RtX X (some (.ref a)) h) : G X d mi pc lv [.ref a] h := g_ret (r := some (.ref a)) hd (by unfold rok; rw [hr]; trivial) hq
theorem z01_0 : (0 : Int32) = 0 ∨ (0 : Int32) = 1 := Or.inl rfl
theorem z01_1 : (1 : Int32) = 0 ∨ (1 : Int32) = 1 := Or.inr rfl
