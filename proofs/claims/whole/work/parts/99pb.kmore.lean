/-! part 99pb: K: rows in the form that the programs write; an array of arrays -/
theorem k_iadd {X : KX} {d mi pc nn : Nat} {lv : List (Option Value)} {t : List Value} {h : Hp} {x y z : Int32} (hd : decode (mth mi).2.1 pc = .ok (.iadd, 1)) (hz : x + y = z) (k : K X d mi (pc + 1) lv (.int z :: t) h nn) : K X d mi pc lv (.int y :: .int x :: t) h nn := by
  obtain ⟨⟨p, l, e, R, s⟩, ⟨m, args, below, meth, c⟩, ⟨D, ct, S0⟩, ⟨n0, nm, ad0⟩, Q, Rt⟩ := X
  intro E hb hw o1 o2 ad H locs ls ha hA hP hS hl
  subst hz
  exact lv_iadd E.1 E.2.1 hd (k E hb hw (ok_cons trivial (ok_tl (ok_tl o1))) o2 ad H locs ls ha hA hP hS hl)
theorem k_istl {X : KX} {d mi pc nn : Nat} {lv lv' : List (Option Value)} {t : List Value} {h : Hp} {n : Fin 4} {j : Nat} {x : Int32} (hd : decode (mth mi).2.1 pc = .ok (.istore_n n, 1)) (hj : (n : Nat) = j) (hn : j < (mth mi).2.2.1) (hp : npl lv j = true) (hL : lst lv j (some (.int x)) = lv') (k : K X d mi (pc + 1) lv' t h nn) : K X d mi pc lv (.int x :: t) h nn := k_istore_n hd hj hn hp (by rw [hL]; exact k)
theorem k_astl {X : KX} {d mi pc nn : Nat} {lv lv' : List (Option Value)} {t : List Value} {h : Hp} {n : Fin 4} {j x : Nat} (hd : decode (mth mi).2.1 pc = .ok (.astore_n n, 1)) (hj : (n : Nat) = j) (hn : j < (mth mi).2.2.1) (hp : npl lv j = true) (hL : lst lv j (some (.ref x)) = lv') (k : K X d mi (pc + 1) lv' t h nn) : K X d mi pc lv (.ref x :: t) h nn := k_astore_n hd hj hn hp (by rw [hL]; exact k)
theorem k_iincl {X : KX} {d mi pc nn : Nat} {lv lv' : List (Option Value)} {t : List Value} {h : Hp} {n : Nat} {z : Int} {x w y : Int32} (hd : decode (mth mi).2.1 pc = .ok (.iinc n z, 3)) (hx : lg lv n = some (.int x)) (hz : Int32.ofInt z = w) (hy : x + w = y) (hn : n < (mth mi).2.2.1) (hp : npl lv n = true) (hL : lst lv n (some (.int y)) = lv') (k : K X d mi (pc + 3) lv' t h nn) : K X d mi pc lv t h nn := k_iinc hd hx hz hy hn hp (by rw [hL]; exact k)
theorem k_newl {X : KX} {d mi pc nn n' : Nat} {lv : List (Option Value)} {t : List Value} {h : Hp} {ix ci : Nat} (hd : decode (mth mi).2.1 pc = .ok (.new ix, 3)) (hcl : Jvm.Cond.classLink (mth mi).1.cls ix (cnF ci) ∈ tbl) (hin : Jvm.Cond.instantiable (cnF ci) (fnF ci) ∈ tbl) (hini : Jvm.Cond.initialized (cnF ci) ∈ tbl) (hs : sh nn = (1, ci)) (hm : nn < nmK X) (hn' : nn + 1 = n') (k : K X d mi (pc + 3) lv (.ref nn :: t) h n') : K X d mi pc lv t h nn := k_new hd hcl hin hini hs hm (by rw [hn']; exact k)
theorem k_newal {X : KX} {d mi pc nn n' N : Nat} {lv : List (Option Value)} {t : List Value} {h : Hp} {n : Int32} (hd : decode (mth mi).2.1 pc = .ok (.newarray .int, 2)) (hw9 : Jvm.Cond.arrayClass .int ∈ tbl) (hs : sh nn = (0, N)) (hN : n = nI N) (hN2 : N < 1000) (hm : nn < nmK X) (hn' : nn + 1 = n') (k : K X d mi (pc + 2) lv (.ref nn :: t) h n') : K X d mi pc lv (.int n :: t) h nn := k_newa hd hw9 hs hN hN2 hm (by rw [hn']; exact k)
theorem k_newql {X : KX} {d mi pc nn n' ix : Nat} {lv : List (Option Value)} {t : List Value} {h : Hp} {n : Int32} (hd : decode (mth mi).2.1 pc = .ok (.anewarray ix, 3)) (hcl : Jvm.Cond.classLink (mth mi).1.cls ix "PlayedTruth$Moment" ∈ tbl) (hs : sh nn = (2, 0)) (hN : n = nI 5) (hm : nn < nmK X) (hn' : nn + 1 = n') (k : K X d mi (pc + 3) lv (.ref nn :: t) h n') : K X d mi pc lv (.int n :: t) h nn := k_newq hd hcl hs hN hm (by rw [hn']; exact k)
theorem k_alenl {X : KX} {d mi pc nn : Nat} {lv : List (Option Value)} {t : List Value} {h : Hp} {a : Nat} (hd : decode (mth mi).2.1 pc = .ok (.arraylength, 1)) (hs : sh a = (2, 0)) (kk : K X d mi (pc + 1) lv (.int 5 :: t) h nn) : K X d mi pc lv (.ref a :: t) h nn := k_alen hd hs kk
theorem mmO_arr (cA : ClassId) : mmO cA = arrV cA 4 (fun _ => .null) := arrV_new ..
theorem mmI_arr (cC : ClassId) : mmI cC = arrV cC 40 (fun _ => .int 0) := arrV_new ..
theorem arrV_go {c : ClassId} {n : Nat} {f g : Nat → Value} (h : ∀ j, j < n → f j = g j) : arrV c n f = arrV c n g := by
  unfold arrV
  have : (fun j : Fin n => f j.1) = fun j : Fin n => g j.1 := funext fun j => h j.1 j.2
  rw [this]
theorem mmF_arr (cA : ClassId) (a : Nat) : mmF cA a = arrV cA 4 (fun j => .ref (a + 1 + j)) := by
  unfold mmF
  rw [mmO_arr, arrV_store, arrV_store, arrV_store, arrV_store]
  refine arrV_go fun j hj => ?_
  unfold updV
  rcases (show j = 0 ∨ j = 1 ∨ j = 2 ∨ j = 3 by omega) with rfl | rfl | rfl | rfl <;> rfl
theorem va_P1 {D : va_G} {cl : List vw_C} {q : Nat} {x : va_E} {H : Heap} (h : va_at D cl (q, x) H) : va_P D cl [(q, x)] H := fun k y hk => by
  have hz : k < 1 := (List.getElem?_eq_some_iff.mp hk).1
  obtain rfl : k = 0 := by omega
  cases hk
  exact h
/-- the addresses, and five more from z on -/
def adQ (ad : Nat → Nat) (n z : Nat) : Nat → Nat := fun c => if c < n ∨ 900 ≤ c then ad c else z + (c - n)
theorem adQ_ag {ad : Nat → Nat} {n z : Nat} : Ag n ad (adQ ad n z) := fun c h => by unfold adQ; rw [if_pos h]
theorem adQ_lt {ad : Nat → Nat} {n z c : Nat} (h : c < n) : adQ ad n z c = ad c := adQ_ag c (Or.inl h)
theorem adQ_ge {ad : Nat → Nat} {n z c : Nat} (h : n ≤ c) (h9 : c < 900) : adQ ad n z c = z + (c - n) := by unfold adQ; rw [if_neg (by omega)]
def h53 (h : Hp) : Hp := wr (wr (wr (wr h 53 0 1) 53 1 1) 53 2 1) 53 3 1
theorem h53_c {h : Hp} {c : Nat} (hc : c ≠ 53) : h53 h c = h c := by unfold h53; rw [wr_c hc, wr_c hc, wr_c hc, wr_c hc]
theorem h53_k {h : Hp} {j : Nat} (hj : j < 4) : h53 h 53 j = 1 := by
  rcases (show j = 0 ∨ j = 1 ∨ j = 2 ∨ j = 3 by omega) with rfl | rfl | rfl | rfl <;> rfl
theorem wf53 {h : Hp} (hw : wfN h 53) : wfN (h53 h) 58 := by
  have h0 := wfN_succ (wfN_succ (wfN_succ (wfN_succ (wfN_succ hw))))
  unfold h53
  refine wfN_wr (wfN_wr (wfN_wr (wfN_wr h0 (by decide) (fun ci q => by cases q) (fun t q => by cases q; decide)) (by decide) (fun ci q => by cases q) (fun t q => by cases q; decide)) (by decide) (fun ci q => by cases q) (fun t q => by cases q; decide)) (by decide) (fun ci q => by cases q) (fun t q => by cases q; decide)
theorem k_multi {X : KX} {d mi pc ix : Nat} {lv : List (Option Value)} {t : List Value} {h : Hp} (hd : decode (mth mi).2.1 pc = .ok (.multianewarray ix 2, 4)) (hcl : Jvm.Cond.classLink (mth mi).1.cls ix "[[I" ∈ tbl) (hm : 57 < nmK X) (k : K X d mi (pc + 4) lv (.ref 53 :: t) (wr (wr (wr (wr h 53 0 1) 53 1 1) 53 2 1) 53 3 1) 58) : K X d mi pc lv (.int 40 :: .int 4 :: t) h 53 := by
  obtain ⟨⟨p, l, e, R, s⟩, ⟨m, args, below, meth, c⟩, ⟨D, ct, S0⟩, ⟨n0, nm, ad0⟩, Q, Rt⟩ := X
  intro E hb hw o1 o2 ad H locs ls ha hA hP hS hl T hT Xs
  obtain ⟨hx, hcb, hml, hown, hts, hK, hNs, ⟨hr1, hr2, hr3, hr4⟩, ⟨hz1, hz2, hz3, hz4⟩, hret⟩ := id E
  have hm : 57 < nm := hm
  have o9 := ok_tl (ok_tl o1)
  have hlo := szN_mono hb.1
  have hsz := szN_mono (a := 58) (b := nm) hm
  have e3 : szN 58 = szN 53 + 164 := by decide +kernel
  obtain ⟨cA, cC, cc, kA, kC, h1, h2, h3, h4, h5, h6⟩ := hNs.2.2
  have f0 : va_RA s (ct 0) .int := (hK.2 0 _ rfl).2
  have f2 : va_RA s (ct 2) (.array .int) := (hK.2 2 _ rfl).2
  unfold va_RA at f0 f2
  have hcC : cC = ct 0 := Option.some.inj (h2.symm.trans f0)
  have hcA : cA = ct 2 := Option.some.inj (h1.symm.trans f2)
  subst hcC hcA
  obtain ⟨vm1, hW, XF, st⟩ := mm_step (rest := t.map (cz ad)) (ls := ls) Xs hx hcb hown (hts _ hcl) h1 h3 h4 h5 h6 hd (by omega) (by omega)
  have hsT : (T.setVm vm1).heap = H := hT
  obtain ⟨q1, q2, q3, q4⟩ := mm4_f (T.setVm vm1) (ct 2) (ct 0) (a := H.size) (by rw [hsT])
  rw [hsT] at q4
  rw [hT] at XF st
  generalize mm4 (T.setVm vm1) (ct 2) (ct 0) H.size = T' at XF st q1 q2 q3 q4
  have hlt : ∀ c, c < 53 → ad c < H.size := fun c hc => (hP c _ (wsN_at hc)).lt
  have agr : ∀ c, c < 53 → adQ ad 53 H.size c = ad c := fun c hc => adQ_lt hc
  have hA' : AdN S0 (adQ ad 53 H.size) 58 := by
    refine ⟨fun i j hi hj q => ?_, fun i hi => ?_⟩
    · rcases Nat.lt_or_ge i 53 with a | a <;> rcases Nat.lt_or_ge j 53 with b | b
      · rw [adQ_lt a, adQ_lt b] at q
        exact hA.1 i j a b q
      · rw [adQ_lt a, adQ_ge b (by omega)] at q
        have := hlt i a
        omega
      · rw [adQ_ge a (by omega), adQ_lt b] at q
        have := hlt j b
        omega
      · rw [adQ_ge a (by omega), adQ_ge b (by omega)] at q
        omega
    · rcases Nat.lt_or_ge i 53 with a | a
      · rw [adQ_lt a]; exact hA.2 i a
      · rw [adQ_ge a (by omega)]
        have := hS.1
        omega
  have hP0 : va_P D classes (wsN (adQ ad 53 H.size) ct (h53 h) 53) T'.heap := by
    have e1 : wsN (adQ ad 53 H.size) ct (h53 h) 53 = wsN (adQ ad 53 H.size) ct h 53 := by
      unfold wsN
      apply List.map_congr_left
      intro c hc
      have := List.mem_range.mp hc
      rw [h53_c (by omega)]
    rw [e1, wsN_go (by decide) agr hw]
    exact hP.kept (fun k x hk => q4 x.1 ((hP k x hk).lt))
  have inn : ∀ c, 54 ≤ c → c < 58 → va_P D classes [(adQ ad 53 H.size c, cellN (adQ ad 53 H.size) ct c (h53 h c))] T'.heap := by
    intro c g1 g2
    have hs : sh c = (0, 40) := by
      rcases (show c = 54 ∨ c = 55 ∨ c = 56 ∨ c = 57 by omega) with rfl | rfl | rfl | rfl <;> rfl
    refine va_P1 ?_
    rw [cellN_arr hs, adQ_ge (by omega) (by omega), h53_c (by omega), hw.2.2 c (by omega), zH_c (by omega)]
    show T'.heap[H.size + (c - 53)]? = some (vp_cell (ct 0) (40, .inl (fun _ => 0)))
    rw [show H.size + (c - 53) = H.size + 1 + (c - 54) by omega, q3 (c - 54) (by omega), mmI_arr]
    rfl
  have hP1 : va_P D classes (wsN (adQ ad 53 H.size) ct (h53 h) 58) T'.heap := by
    rw [wsN_succ, wsN_succ, wsN_succ, wsN_succ, wsN_succ]
    refine va_P.app (va_P.app (va_P.app (va_P.app (va_P.app hP0 (va_P1 ?_)) (inn 54 (by decide) (by decide))) (inn 55 (by decide) (by decide))) (inn 56 (by decide) (by decide))) (inn 57 (by decide) (by decide))
    rw [cellN_ref (show sh 53 = (2, 1) from rfl), adQ_ge (by omega) (by omega)]
    show T'.heap[H.size + 0]? = some (vp_cell (ct 2) (4, .inr (.inr (.inr (.inr (refN (adQ ad 53 H.size) 1 (h53 h 53)))))))
    rw [Nat.add_zero, q2, mmF_arr, vp_cell_q]
    refine congrArg some (arrV_go fun j hj => ?_)
    unfold refN
    rw [h53_k hj, if_neg (by decide), adQ_ge (show 53 ≤ re 1 j from show 53 ≤ 54 + j by omega) (show 54 + j < 900 by omega)]
    show Value.ref (H.size + 1 + j) = Value.ref (H.size + (54 + j - 53))
    rw [show H.size + (54 + j - 53) = H.size + 1 + j by omega]
  have hS1 : va_S (AK S0) s.heap T'.heap (locs ++ [⟨H.size, 0⟩] ++ [⟨H.size, 1⟩] ++ [⟨H.size, 2⟩] ++ [⟨H.size, 3⟩]) := by
    have hs1 := hS.1
    refine ⟨by omega, fun q g1 g2 => ?_, fun q hq => ?_⟩
    · rw [q4 q (by omega)]
      exact hS.2.1 q g1 g2
    · simp only [List.mem_append, List.mem_singleton] at hq
      rcases hq with (((hq | rfl) | rfl) | rfl) | rfl
      · exact hS.2.2 q hq
      · show S0 ≤ H.size; omega
      · show S0 ≤ H.size; omega
      · show S0 ≤ H.size; omega
      · show S0 ≤ H.size; omega
  have h9 := k E ⟨by omega, hm⟩ (wf53 hw) (ok_cons (Or.inl (show 53 < 58 by decide)) (fun v hv => vOk_le (by decide) (o9 v hv))) (fun i v hi => vOk_le (by decide) (o2 i v hi)) (adQ ad 53 H.size) T'.heap _ ls (fun c hc => by rw [adQ_ag c (by omega)]; exact ha c hc) hA' hP1 hS1 (lvR_P hl adQ_ag o2) T' rfl (by rw [show 58 - n0 = 53 - n0 + 5 by omega, show szN 58 - szN n0 = szN 53 - szN n0 + 164 by omega]; exact XF)
  obtain ⟨t2, a1, b1⟩ := h9
  refine ⟨t2, st t2 ?_, b1⟩
  rw [List.map_cons, st_P adQ_ag o9, show cz (adQ ad 53 H.size) (.ref 53) = .ref H.size from by show Value.ref _ = _; rw [adQ_ge (Nat.le_refl 53) (by decide)]; rfl] at a1
  exact a1
