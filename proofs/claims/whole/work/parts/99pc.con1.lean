/-! part 99pc: constructors: rules, moments, strangers, acting (written by wip/whole/gencon.py) -/
theorem dn_3_0 : decode (mth 3).2.1 0 = .ok (.aload_n 0, 1) := by decide +kernel
theorem dn_3_1 : decode (mth 3).2.1 1 = .ok (.invokespecial 5, 3) := by decide +kernel
set_option maxRecDepth 100000 in
theorem wn_0 : Jvm.Cond.instanceMethod ⟨"java/lang/Object", "<init>", "()V"⟩ ∈ tbl := in_t1 (List.mem_of_getElem? (i := 25) rfl) rfl
theorem dn_3_4 : decode (mth 3).2.1 4 = .ok (.aload_n 0, 1) := by decide +kernel
theorem dn_3_5 : decode (mth 3).2.1 5 = .ok (.bipush (8), 2) := by decide +kernel
theorem dn_3_7 : decode (mth 3).2.1 7 = .ok (.newarray .int, 2) := by decide +kernel
set_option maxRecDepth 100000 in
theorem wn_1 : Jvm.Cond.arrayClass .int ∈ tbl := in_t1 (List.mem_of_getElem? (i := 61) rfl) rfl
theorem dn_3_9 : decode (mth 3).2.1 9 = .ok (.putfield 13, 3) := by decide +kernel
theorem dn_3_12 : decode (mth 3).2.1 12 = .ok (.aload_n 0, 1) := by decide +kernel
theorem dn_3_13 : decode (mth 3).2.1 13 = .ok (.bipush (8), 2) := by decide +kernel
theorem dn_3_15 : decode (mth 3).2.1 15 = .ok (.newarray .int, 2) := by decide +kernel
theorem dn_3_17 : decode (mth 3).2.1 17 = .ok (.putfield 17, 3) := by decide +kernel
theorem dn_3_20 : decode (mth 3).2.1 20 = .ok (.aload_n 0, 1) := by decide +kernel
theorem dn_3_21 : decode (mth 3).2.1 21 = .ok (.bipush (8), 2) := by decide +kernel
theorem dn_3_23 : decode (mth 3).2.1 23 = .ok (.newarray .int, 2) := by decide +kernel
theorem dn_3_25 : decode (mth 3).2.1 25 = .ok (.putfield 20, 3) := by decide +kernel
theorem dn_3_28 : decode (mth 3).2.1 28 = .ok (.aload_n 0, 1) := by decide +kernel
theorem dn_3_29 : decode (mth 3).2.1 29 = .ok (.sipush (200), 3) := by decide +kernel
theorem dn_3_32 : decode (mth 3).2.1 32 = .ok (.newarray .int, 2) := by decide +kernel
theorem dn_3_34 : decode (mth 3).2.1 34 = .ok (.putfield 23, 3) := by decide +kernel
theorem dn_3_37 : decode (mth 3).2.1 37 = .ok (.aload_n 0, 1) := by decide +kernel
theorem dn_3_38 : decode (mth 3).2.1 38 = .ok (.iconst (0), 1) := by decide +kernel
theorem dn_3_39 : decode (mth 3).2.1 39 = .ok (.putfield 26, 3) := by decide +kernel
theorem dn_3_42 : decode (mth 3).2.1 42 = .ok (.aload_n 0, 1) := by decide +kernel
theorem dn_3_43 : decode (mth 3).2.1 43 = .ok (.iconst (0), 1) := by decide +kernel
theorem dn_3_44 : decode (mth 3).2.1 44 = .ok (.putfield 30, 3) := by decide +kernel
theorem dn_3_47 : decode (mth 3).2.1 47 = .ok (.return_, 1) := by decide +kernel
def q_3_7 (h : Hp) : Hp := (wr (wr (wr (wr (wr (wr h 7 0 1) 7 1 1) 7 2 1) 7 3 1) 7 4 0) 7 5 0)
set_option maxHeartbeats 4000000 in
set_option maxRecDepth 100000 in
theorem n_3_7 (h : Hp) : CN 1 3 [.ref 7] h 8 (q_3_7 h) 12 := by
  refine CN.of mo_3 rfl (Nat.le_of_ble_eq_true rfl) (by decide) (by decide) (fun X hX hq => ?_)
  show K X 1 3 0 [some (.ref 7)] [] h 8
  refine k_aload_n dn_3_0 rfl rfl ?_
  refine k_obj dn_3_1 wd_4 wn_0 (by decide) (by decide) ?_
  refine k_aload_n dn_3_4 rfl rfl ?_
  refine k_bipush (v := 8) dn_3_5 (by decide) ?_
  refine k_newal (N := 8) (n' := 9) dn_3_7 wn_1 rfl rfl (by decide) (by rw [hX]; decide) rfl ?_
  refine k_putR (ci := 5) (k := 0) dn_3_9 wd_5 (Nat.le_of_ble_eq_true rfl) rfl rfl rfl (Or.inl rfl) rfl rfl (by decide) ?_
  refine k_aload_n dn_3_12 rfl rfl ?_
  refine k_bipush (v := 8) dn_3_13 (by decide) ?_
  refine k_newal (N := 8) (n' := 10) dn_3_15 wn_1 rfl rfl (by decide) (by rw [hX]; decide) rfl ?_
  refine k_putR (ci := 5) (k := 1) dn_3_17 wd_6 (Nat.le_of_ble_eq_true rfl) rfl rfl rfl (Or.inl rfl) rfl rfl (by decide) ?_
  refine k_aload_n dn_3_20 rfl rfl ?_
  refine k_bipush (v := 8) dn_3_21 (by decide) ?_
  refine k_newal (N := 8) (n' := 11) dn_3_23 wn_1 rfl rfl (by decide) (by rw [hX]; decide) rfl ?_
  refine k_putR (ci := 5) (k := 2) dn_3_25 wd_7 (Nat.le_of_ble_eq_true rfl) rfl rfl rfl (Or.inl rfl) rfl rfl (by decide) ?_
  refine k_aload_n dn_3_28 rfl rfl ?_
  refine k_sipush (v := 200) dn_3_29 (by decide) ?_
  refine k_newal (N := 200) (n' := 12) dn_3_32 wn_1 rfl rfl (by decide) (by rw [hX]; decide) rfl ?_
  refine k_putR (ci := 5) (k := 3) dn_3_34 wd_8 (Nat.le_of_ble_eq_true rfl) rfl rfl rfl (Or.inl rfl) rfl rfl (by decide) ?_
  refine k_aload_n dn_3_37 rfl rfl ?_
  refine k_iconst (v := 0) dn_3_38 rfl ?_
  refine k_putI (ci := 5) (k := 4) dn_3_39 wd_9 (Nat.le_of_ble_eq_true rfl) rfl rfl rfl (Or.inl ⟨rfl, rfl⟩) rfl ?_
  refine k_aload_n dn_3_42 rfl rfl ?_
  refine k_iconst (v := 0) dn_3_43 rfl ?_
  refine k_putI (ci := 5) (k := 5) dn_3_44 wd_10 (Nat.le_of_ble_eq_true rfl) rfl rfl rfl (Or.inl ⟨rfl, rfl⟩) rfl ?_
  exact k_ret dn_3_47 hq
def q_3_23 (h : Hp) : Hp := (wr (wr (wr (wr (wr (wr h 23 0 1) 23 1 1) 23 2 1) 23 3 1) 23 4 0) 23 5 0)
set_option maxHeartbeats 4000000 in
set_option maxRecDepth 100000 in
theorem n_3_23 (h : Hp) : CN 1 3 [.ref 23] h 24 (q_3_23 h) 28 := by
  refine CN.of mo_3 rfl (Nat.le_of_ble_eq_true rfl) (by decide) (by decide) (fun X hX hq => ?_)
  show K X 1 3 0 [some (.ref 23)] [] h 24
  refine k_aload_n dn_3_0 rfl rfl ?_
  refine k_obj dn_3_1 wd_4 wn_0 (by decide) (by decide) ?_
  refine k_aload_n dn_3_4 rfl rfl ?_
  refine k_bipush (v := 8) dn_3_5 (by decide) ?_
  refine k_newal (N := 8) (n' := 25) dn_3_7 wn_1 rfl rfl (by decide) (by rw [hX]; decide) rfl ?_
  refine k_putR (ci := 5) (k := 0) dn_3_9 wd_5 (Nat.le_of_ble_eq_true rfl) rfl rfl rfl (Or.inl rfl) rfl rfl (by decide) ?_
  refine k_aload_n dn_3_12 rfl rfl ?_
  refine k_bipush (v := 8) dn_3_13 (by decide) ?_
  refine k_newal (N := 8) (n' := 26) dn_3_15 wn_1 rfl rfl (by decide) (by rw [hX]; decide) rfl ?_
  refine k_putR (ci := 5) (k := 1) dn_3_17 wd_6 (Nat.le_of_ble_eq_true rfl) rfl rfl rfl (Or.inl rfl) rfl rfl (by decide) ?_
  refine k_aload_n dn_3_20 rfl rfl ?_
  refine k_bipush (v := 8) dn_3_21 (by decide) ?_
  refine k_newal (N := 8) (n' := 27) dn_3_23 wn_1 rfl rfl (by decide) (by rw [hX]; decide) rfl ?_
  refine k_putR (ci := 5) (k := 2) dn_3_25 wd_7 (Nat.le_of_ble_eq_true rfl) rfl rfl rfl (Or.inl rfl) rfl rfl (by decide) ?_
  refine k_aload_n dn_3_28 rfl rfl ?_
  refine k_sipush (v := 200) dn_3_29 (by decide) ?_
  refine k_newal (N := 200) (n' := 28) dn_3_32 wn_1 rfl rfl (by decide) (by rw [hX]; decide) rfl ?_
  refine k_putR (ci := 5) (k := 3) dn_3_34 wd_8 (Nat.le_of_ble_eq_true rfl) rfl rfl rfl (Or.inl rfl) rfl rfl (by decide) ?_
  refine k_aload_n dn_3_37 rfl rfl ?_
  refine k_iconst (v := 0) dn_3_38 rfl ?_
  refine k_putI (ci := 5) (k := 4) dn_3_39 wd_9 (Nat.le_of_ble_eq_true rfl) rfl rfl rfl (Or.inl ⟨rfl, rfl⟩) rfl ?_
  refine k_aload_n dn_3_42 rfl rfl ?_
  refine k_iconst (v := 0) dn_3_43 rfl ?_
  refine k_putI (ci := 5) (k := 5) dn_3_44 wd_10 (Nat.le_of_ble_eq_true rfl) rfl rfl rfl (Or.inl ⟨rfl, rfl⟩) rfl ?_
  exact k_ret dn_3_47 hq
def q_3_70 (h : Hp) : Hp := (wr (wr (wr (wr (wr (wr h 70 0 1) 70 1 1) 70 2 1) 70 3 1) 70 4 0) 70 5 0)
set_option maxHeartbeats 4000000 in
set_option maxRecDepth 100000 in
theorem n_3_70 (h : Hp) : CN 1 3 [.ref 70] h 71 (q_3_70 h) 75 := by
  refine CN.of mo_3 rfl (Nat.le_of_ble_eq_true rfl) (by decide) (by decide) (fun X hX hq => ?_)
  show K X 1 3 0 [some (.ref 70)] [] h 71
  refine k_aload_n dn_3_0 rfl rfl ?_
  refine k_obj dn_3_1 wd_4 wn_0 (by decide) (by decide) ?_
  refine k_aload_n dn_3_4 rfl rfl ?_
  refine k_bipush (v := 8) dn_3_5 (by decide) ?_
  refine k_newal (N := 8) (n' := 72) dn_3_7 wn_1 rfl rfl (by decide) (by rw [hX]; decide) rfl ?_
  refine k_putR (ci := 5) (k := 0) dn_3_9 wd_5 (Nat.le_of_ble_eq_true rfl) rfl rfl rfl (Or.inl rfl) rfl rfl (by decide) ?_
  refine k_aload_n dn_3_12 rfl rfl ?_
  refine k_bipush (v := 8) dn_3_13 (by decide) ?_
  refine k_newal (N := 8) (n' := 73) dn_3_15 wn_1 rfl rfl (by decide) (by rw [hX]; decide) rfl ?_
  refine k_putR (ci := 5) (k := 1) dn_3_17 wd_6 (Nat.le_of_ble_eq_true rfl) rfl rfl rfl (Or.inl rfl) rfl rfl (by decide) ?_
  refine k_aload_n dn_3_20 rfl rfl ?_
  refine k_bipush (v := 8) dn_3_21 (by decide) ?_
  refine k_newal (N := 8) (n' := 74) dn_3_23 wn_1 rfl rfl (by decide) (by rw [hX]; decide) rfl ?_
  refine k_putR (ci := 5) (k := 2) dn_3_25 wd_7 (Nat.le_of_ble_eq_true rfl) rfl rfl rfl (Or.inl rfl) rfl rfl (by decide) ?_
  refine k_aload_n dn_3_28 rfl rfl ?_
  refine k_sipush (v := 200) dn_3_29 (by decide) ?_
  refine k_newal (N := 200) (n' := 75) dn_3_32 wn_1 rfl rfl (by decide) (by rw [hX]; decide) rfl ?_
  refine k_putR (ci := 5) (k := 3) dn_3_34 wd_8 (Nat.le_of_ble_eq_true rfl) rfl rfl rfl (Or.inl rfl) rfl rfl (by decide) ?_
  refine k_aload_n dn_3_37 rfl rfl ?_
  refine k_iconst (v := 0) dn_3_38 rfl ?_
  refine k_putI (ci := 5) (k := 4) dn_3_39 wd_9 (Nat.le_of_ble_eq_true rfl) rfl rfl rfl (Or.inl ⟨rfl, rfl⟩) rfl ?_
  refine k_aload_n dn_3_42 rfl rfl ?_
  refine k_iconst (v := 0) dn_3_43 rfl ?_
  refine k_putI (ci := 5) (k := 5) dn_3_44 wd_10 (Nat.le_of_ble_eq_true rfl) rfl rfl rfl (Or.inl ⟨rfl, rfl⟩) rfl ?_
  exact k_ret dn_3_47 hq
theorem dn_4_0 : decode (mth 4).2.1 0 = .ok (.aload_n 0, 1) := by decide +kernel
theorem dn_4_1 : decode (mth 4).2.1 1 = .ok (.invokespecial 3, 3) := by decide +kernel
theorem dn_4_4 : decode (mth 4).2.1 4 = .ok (.aload_n 0, 1) := by decide +kernel
theorem dn_4_5 : decode (mth 4).2.1 5 = .ok (.bipush (6), 2) := by decide +kernel
theorem dn_4_7 : decode (mth 4).2.1 7 = .ok (.newarray .int, 2) := by decide +kernel
theorem dn_4_9 : decode (mth 4).2.1 9 = .ok (.putfield 9, 3) := by decide +kernel
theorem dn_4_12 : decode (mth 4).2.1 12 = .ok (.aload_n 0, 1) := by decide +kernel
theorem dn_4_13 : decode (mth 4).2.1 13 = .ok (.bipush (6), 2) := by decide +kernel
theorem dn_4_15 : decode (mth 4).2.1 15 = .ok (.newarray .int, 2) := by decide +kernel
theorem dn_4_17 : decode (mth 4).2.1 17 = .ok (.putfield 15, 3) := by decide +kernel
theorem dn_4_20 : decode (mth 4).2.1 20 = .ok (.aload_n 0, 1) := by decide +kernel
theorem dn_4_21 : decode (mth 4).2.1 21 = .ok (.iconst (0), 1) := by decide +kernel
theorem dn_4_22 : decode (mth 4).2.1 22 = .ok (.putfield 18, 3) := by decide +kernel
theorem dn_4_25 : decode (mth 4).2.1 25 = .ok (.aload_n 0, 1) := by decide +kernel
theorem dn_4_26 : decode (mth 4).2.1 26 = .ok (.iconst (0), 1) := by decide +kernel
theorem dn_4_27 : decode (mth 4).2.1 27 = .ok (.putfield 22, 3) := by decide +kernel
theorem dn_4_30 : decode (mth 4).2.1 30 = .ok (.aload_n 0, 1) := by decide +kernel
theorem dn_4_31 : decode (mth 4).2.1 31 = .ok (.iconst (0), 1) := by decide +kernel
theorem dn_4_32 : decode (mth 4).2.1 32 = .ok (.putfield 25, 3) := by decide +kernel
theorem dn_4_35 : decode (mth 4).2.1 35 = .ok (.aload_n 0, 1) := by decide +kernel
theorem dn_4_36 : decode (mth 4).2.1 36 = .ok (.iconst (1), 1) := by decide +kernel
theorem dn_4_37 : decode (mth 4).2.1 37 = .ok (.putfield 28, 3) := by decide +kernel
theorem dn_4_40 : decode (mth 4).2.1 40 = .ok (.return_, 1) := by decide +kernel
def q_4_13 (h : Hp) : Hp := (wr (wr (wr (wr (wr (wr h 13 0 1) 13 1 1) 13 2 0) 13 3 0) 13 4 0) 13 5 1)
set_option maxHeartbeats 4000000 in
set_option maxRecDepth 100000 in
theorem n_4_13 (h : Hp) : CN 1 4 [.ref 13] h 14 (q_4_13 h) 16 := by
  refine CN.of mo_4 rfl (Nat.le_of_ble_eq_true rfl) (by decide) (by decide) (fun X hX hq => ?_)
  show K X 1 4 0 [some (.ref 13)] [] h 14
  refine k_aload_n dn_4_0 rfl rfl ?_
  refine k_obj dn_4_1 wd_33 wn_0 (by decide) (by decide) ?_
  refine k_aload_n dn_4_4 rfl rfl ?_
  refine k_bipush (v := 6) dn_4_5 (by decide) ?_
  refine k_newal (N := 6) (n' := 15) dn_4_7 wn_1 rfl rfl (by decide) (by rw [hX]; decide) rfl ?_
  refine k_putR (ci := 3) (k := 0) dn_4_9 wd_34 (Nat.le_of_ble_eq_true rfl) rfl rfl rfl (Or.inl rfl) rfl rfl (by decide) ?_
  refine k_aload_n dn_4_12 rfl rfl ?_
  refine k_bipush (v := 6) dn_4_13 (by decide) ?_
  refine k_newal (N := 6) (n' := 16) dn_4_15 wn_1 rfl rfl (by decide) (by rw [hX]; decide) rfl ?_
  refine k_putR (ci := 3) (k := 1) dn_4_17 wd_37 (Nat.le_of_ble_eq_true rfl) rfl rfl rfl (Or.inl rfl) rfl rfl (by decide) ?_
  refine k_aload_n dn_4_20 rfl rfl ?_
  refine k_iconst (v := 0) dn_4_21 rfl ?_
  refine k_putI (ci := 3) (k := 2) dn_4_22 wd_40 (Nat.le_of_ble_eq_true rfl) rfl rfl rfl (Or.inl ⟨rfl, rfl⟩) rfl ?_
  refine k_aload_n dn_4_25 rfl rfl ?_
  refine k_iconst (v := 0) dn_4_26 rfl ?_
  refine k_putI (ci := 3) (k := 3) dn_4_27 wd_44 (Nat.le_of_ble_eq_true rfl) rfl rfl rfl (Or.inl ⟨rfl, rfl⟩) rfl ?_
  refine k_aload_n dn_4_30 rfl rfl ?_
  refine k_iconst (v := 0) dn_4_31 rfl ?_
  refine k_putI (ci := 3) (k := 4) dn_4_32 wd_48 (Nat.le_of_ble_eq_true rfl) rfl rfl rfl (Or.inl ⟨rfl, rfl⟩) rfl ?_
  refine k_aload_n dn_4_35 rfl rfl ?_
  refine k_iconst (v := 1) dn_4_36 rfl ?_
  refine k_putI (ci := 3) (k := 5) dn_4_37 wd_52 (Nat.le_of_ble_eq_true rfl) rfl rfl rfl (Or.inl ⟨rfl, rfl⟩) rfl ?_
  exact k_ret dn_4_40 hq
def q_4_76 (h : Hp) : Hp := (wr (wr (wr (wr (wr (wr h 76 0 1) 76 1 1) 76 2 0) 76 3 0) 76 4 0) 76 5 1)
set_option maxHeartbeats 4000000 in
set_option maxRecDepth 100000 in
theorem n_4_76 (h : Hp) : CN 1 4 [.ref 76] h 77 (q_4_76 h) 79 := by
  refine CN.of mo_4 rfl (Nat.le_of_ble_eq_true rfl) (by decide) (by decide) (fun X hX hq => ?_)
  show K X 1 4 0 [some (.ref 76)] [] h 77
  refine k_aload_n dn_4_0 rfl rfl ?_
  refine k_obj dn_4_1 wd_33 wn_0 (by decide) (by decide) ?_
  refine k_aload_n dn_4_4 rfl rfl ?_
  refine k_bipush (v := 6) dn_4_5 (by decide) ?_
  refine k_newal (N := 6) (n' := 78) dn_4_7 wn_1 rfl rfl (by decide) (by rw [hX]; decide) rfl ?_
  refine k_putR (ci := 3) (k := 0) dn_4_9 wd_34 (Nat.le_of_ble_eq_true rfl) rfl rfl rfl (Or.inl rfl) rfl rfl (by decide) ?_
  refine k_aload_n dn_4_12 rfl rfl ?_
  refine k_bipush (v := 6) dn_4_13 (by decide) ?_
  refine k_newal (N := 6) (n' := 79) dn_4_15 wn_1 rfl rfl (by decide) (by rw [hX]; decide) rfl ?_
  refine k_putR (ci := 3) (k := 1) dn_4_17 wd_37 (Nat.le_of_ble_eq_true rfl) rfl rfl rfl (Or.inl rfl) rfl rfl (by decide) ?_
  refine k_aload_n dn_4_20 rfl rfl ?_
  refine k_iconst (v := 0) dn_4_21 rfl ?_
  refine k_putI (ci := 3) (k := 2) dn_4_22 wd_40 (Nat.le_of_ble_eq_true rfl) rfl rfl rfl (Or.inl ⟨rfl, rfl⟩) rfl ?_
  refine k_aload_n dn_4_25 rfl rfl ?_
  refine k_iconst (v := 0) dn_4_26 rfl ?_
  refine k_putI (ci := 3) (k := 3) dn_4_27 wd_44 (Nat.le_of_ble_eq_true rfl) rfl rfl rfl (Or.inl ⟨rfl, rfl⟩) rfl ?_
  refine k_aload_n dn_4_30 rfl rfl ?_
  refine k_iconst (v := 0) dn_4_31 rfl ?_
  refine k_putI (ci := 3) (k := 4) dn_4_32 wd_48 (Nat.le_of_ble_eq_true rfl) rfl rfl rfl (Or.inl ⟨rfl, rfl⟩) rfl ?_
  refine k_aload_n dn_4_35 rfl rfl ?_
  refine k_iconst (v := 1) dn_4_36 rfl ?_
  refine k_putI (ci := 3) (k := 5) dn_4_37 wd_52 (Nat.le_of_ble_eq_true rfl) rfl rfl rfl (Or.inl ⟨rfl, rfl⟩) rfl ?_
  exact k_ret dn_4_40 hq
def q_4_35 (h : Hp) : Hp := (wr (wr (wr (wr (wr (wr h 35 0 1) 35 1 1) 35 2 0) 35 3 0) 35 4 0) 35 5 1)
set_option maxHeartbeats 4000000 in
set_option maxRecDepth 100000 in
theorem n_4_35 (h : Hp) : CN 1 4 [.ref 35] h 36 (q_4_35 h) 38 := by
  refine CN.of mo_4 rfl (Nat.le_of_ble_eq_true rfl) (by decide) (by decide) (fun X hX hq => ?_)
  show K X 1 4 0 [some (.ref 35)] [] h 36
  refine k_aload_n dn_4_0 rfl rfl ?_
  refine k_obj dn_4_1 wd_33 wn_0 (by decide) (by decide) ?_
  refine k_aload_n dn_4_4 rfl rfl ?_
  refine k_bipush (v := 6) dn_4_5 (by decide) ?_
  refine k_newal (N := 6) (n' := 37) dn_4_7 wn_1 rfl rfl (by decide) (by rw [hX]; decide) rfl ?_
  refine k_putR (ci := 3) (k := 0) dn_4_9 wd_34 (Nat.le_of_ble_eq_true rfl) rfl rfl rfl (Or.inl rfl) rfl rfl (by decide) ?_
  refine k_aload_n dn_4_12 rfl rfl ?_
  refine k_bipush (v := 6) dn_4_13 (by decide) ?_
  refine k_newal (N := 6) (n' := 38) dn_4_15 wn_1 rfl rfl (by decide) (by rw [hX]; decide) rfl ?_
  refine k_putR (ci := 3) (k := 1) dn_4_17 wd_37 (Nat.le_of_ble_eq_true rfl) rfl rfl rfl (Or.inl rfl) rfl rfl (by decide) ?_
  refine k_aload_n dn_4_20 rfl rfl ?_
  refine k_iconst (v := 0) dn_4_21 rfl ?_
  refine k_putI (ci := 3) (k := 2) dn_4_22 wd_40 (Nat.le_of_ble_eq_true rfl) rfl rfl rfl (Or.inl ⟨rfl, rfl⟩) rfl ?_
  refine k_aload_n dn_4_25 rfl rfl ?_
  refine k_iconst (v := 0) dn_4_26 rfl ?_
  refine k_putI (ci := 3) (k := 3) dn_4_27 wd_44 (Nat.le_of_ble_eq_true rfl) rfl rfl rfl (Or.inl ⟨rfl, rfl⟩) rfl ?_
  refine k_aload_n dn_4_30 rfl rfl ?_
  refine k_iconst (v := 0) dn_4_31 rfl ?_
  refine k_putI (ci := 3) (k := 4) dn_4_32 wd_48 (Nat.le_of_ble_eq_true rfl) rfl rfl rfl (Or.inl ⟨rfl, rfl⟩) rfl ?_
  refine k_aload_n dn_4_35 rfl rfl ?_
  refine k_iconst (v := 1) dn_4_36 rfl ?_
  refine k_putI (ci := 3) (k := 5) dn_4_37 wd_52 (Nat.le_of_ble_eq_true rfl) rfl rfl rfl (Or.inl ⟨rfl, rfl⟩) rfl ?_
  exact k_ret dn_4_40 hq
def q_4_38 (h : Hp) : Hp := (wr (wr (wr (wr (wr (wr h 38 0 1) 38 1 1) 38 2 0) 38 3 0) 38 4 0) 38 5 1)
set_option maxHeartbeats 4000000 in
set_option maxRecDepth 100000 in
theorem n_4_38 (h : Hp) : CN 1 4 [.ref 38] h 39 (q_4_38 h) 41 := by
  refine CN.of mo_4 rfl (Nat.le_of_ble_eq_true rfl) (by decide) (by decide) (fun X hX hq => ?_)
  show K X 1 4 0 [some (.ref 38)] [] h 39
  refine k_aload_n dn_4_0 rfl rfl ?_
  refine k_obj dn_4_1 wd_33 wn_0 (by decide) (by decide) ?_
  refine k_aload_n dn_4_4 rfl rfl ?_
  refine k_bipush (v := 6) dn_4_5 (by decide) ?_
  refine k_newal (N := 6) (n' := 40) dn_4_7 wn_1 rfl rfl (by decide) (by rw [hX]; decide) rfl ?_
  refine k_putR (ci := 3) (k := 0) dn_4_9 wd_34 (Nat.le_of_ble_eq_true rfl) rfl rfl rfl (Or.inl rfl) rfl rfl (by decide) ?_
  refine k_aload_n dn_4_12 rfl rfl ?_
  refine k_bipush (v := 6) dn_4_13 (by decide) ?_
  refine k_newal (N := 6) (n' := 41) dn_4_15 wn_1 rfl rfl (by decide) (by rw [hX]; decide) rfl ?_
  refine k_putR (ci := 3) (k := 1) dn_4_17 wd_37 (Nat.le_of_ble_eq_true rfl) rfl rfl rfl (Or.inl rfl) rfl rfl (by decide) ?_
  refine k_aload_n dn_4_20 rfl rfl ?_
  refine k_iconst (v := 0) dn_4_21 rfl ?_
  refine k_putI (ci := 3) (k := 2) dn_4_22 wd_40 (Nat.le_of_ble_eq_true rfl) rfl rfl rfl (Or.inl ⟨rfl, rfl⟩) rfl ?_
  refine k_aload_n dn_4_25 rfl rfl ?_
  refine k_iconst (v := 0) dn_4_26 rfl ?_
  refine k_putI (ci := 3) (k := 3) dn_4_27 wd_44 (Nat.le_of_ble_eq_true rfl) rfl rfl rfl (Or.inl ⟨rfl, rfl⟩) rfl ?_
  refine k_aload_n dn_4_30 rfl rfl ?_
  refine k_iconst (v := 0) dn_4_31 rfl ?_
  refine k_putI (ci := 3) (k := 4) dn_4_32 wd_48 (Nat.le_of_ble_eq_true rfl) rfl rfl rfl (Or.inl ⟨rfl, rfl⟩) rfl ?_
  refine k_aload_n dn_4_35 rfl rfl ?_
  refine k_iconst (v := 1) dn_4_36 rfl ?_
  refine k_putI (ci := 3) (k := 5) dn_4_37 wd_52 (Nat.le_of_ble_eq_true rfl) rfl rfl rfl (Or.inl ⟨rfl, rfl⟩) rfl ?_
  exact k_ret dn_4_40 hq
def q_4_41 (h : Hp) : Hp := (wr (wr (wr (wr (wr (wr h 41 0 1) 41 1 1) 41 2 0) 41 3 0) 41 4 0) 41 5 1)
set_option maxHeartbeats 4000000 in
set_option maxRecDepth 100000 in
theorem n_4_41 (h : Hp) : CN 1 4 [.ref 41] h 42 (q_4_41 h) 44 := by
  refine CN.of mo_4 rfl (Nat.le_of_ble_eq_true rfl) (by decide) (by decide) (fun X hX hq => ?_)
  show K X 1 4 0 [some (.ref 41)] [] h 42
  refine k_aload_n dn_4_0 rfl rfl ?_
  refine k_obj dn_4_1 wd_33 wn_0 (by decide) (by decide) ?_
  refine k_aload_n dn_4_4 rfl rfl ?_
  refine k_bipush (v := 6) dn_4_5 (by decide) ?_
  refine k_newal (N := 6) (n' := 43) dn_4_7 wn_1 rfl rfl (by decide) (by rw [hX]; decide) rfl ?_
  refine k_putR (ci := 3) (k := 0) dn_4_9 wd_34 (Nat.le_of_ble_eq_true rfl) rfl rfl rfl (Or.inl rfl) rfl rfl (by decide) ?_
  refine k_aload_n dn_4_12 rfl rfl ?_
  refine k_bipush (v := 6) dn_4_13 (by decide) ?_
  refine k_newal (N := 6) (n' := 44) dn_4_15 wn_1 rfl rfl (by decide) (by rw [hX]; decide) rfl ?_
  refine k_putR (ci := 3) (k := 1) dn_4_17 wd_37 (Nat.le_of_ble_eq_true rfl) rfl rfl rfl (Or.inl rfl) rfl rfl (by decide) ?_
  refine k_aload_n dn_4_20 rfl rfl ?_
  refine k_iconst (v := 0) dn_4_21 rfl ?_
  refine k_putI (ci := 3) (k := 2) dn_4_22 wd_40 (Nat.le_of_ble_eq_true rfl) rfl rfl rfl (Or.inl ⟨rfl, rfl⟩) rfl ?_
  refine k_aload_n dn_4_25 rfl rfl ?_
  refine k_iconst (v := 0) dn_4_26 rfl ?_
  refine k_putI (ci := 3) (k := 3) dn_4_27 wd_44 (Nat.le_of_ble_eq_true rfl) rfl rfl rfl (Or.inl ⟨rfl, rfl⟩) rfl ?_
  refine k_aload_n dn_4_30 rfl rfl ?_
  refine k_iconst (v := 0) dn_4_31 rfl ?_
  refine k_putI (ci := 3) (k := 4) dn_4_32 wd_48 (Nat.le_of_ble_eq_true rfl) rfl rfl rfl (Or.inl ⟨rfl, rfl⟩) rfl ?_
  refine k_aload_n dn_4_35 rfl rfl ?_
  refine k_iconst (v := 1) dn_4_36 rfl ?_
  refine k_putI (ci := 3) (k := 5) dn_4_37 wd_52 (Nat.le_of_ble_eq_true rfl) rfl rfl rfl (Or.inl ⟨rfl, rfl⟩) rfl ?_
  exact k_ret dn_4_40 hq
def q_4_44 (h : Hp) : Hp := (wr (wr (wr (wr (wr (wr h 44 0 1) 44 1 1) 44 2 0) 44 3 0) 44 4 0) 44 5 1)
set_option maxHeartbeats 4000000 in
set_option maxRecDepth 100000 in
theorem n_4_44 (h : Hp) : CN 1 4 [.ref 44] h 45 (q_4_44 h) 47 := by
  refine CN.of mo_4 rfl (Nat.le_of_ble_eq_true rfl) (by decide) (by decide) (fun X hX hq => ?_)
  show K X 1 4 0 [some (.ref 44)] [] h 45
  refine k_aload_n dn_4_0 rfl rfl ?_
  refine k_obj dn_4_1 wd_33 wn_0 (by decide) (by decide) ?_
  refine k_aload_n dn_4_4 rfl rfl ?_
  refine k_bipush (v := 6) dn_4_5 (by decide) ?_
  refine k_newal (N := 6) (n' := 46) dn_4_7 wn_1 rfl rfl (by decide) (by rw [hX]; decide) rfl ?_
  refine k_putR (ci := 3) (k := 0) dn_4_9 wd_34 (Nat.le_of_ble_eq_true rfl) rfl rfl rfl (Or.inl rfl) rfl rfl (by decide) ?_
  refine k_aload_n dn_4_12 rfl rfl ?_
  refine k_bipush (v := 6) dn_4_13 (by decide) ?_
  refine k_newal (N := 6) (n' := 47) dn_4_15 wn_1 rfl rfl (by decide) (by rw [hX]; decide) rfl ?_
  refine k_putR (ci := 3) (k := 1) dn_4_17 wd_37 (Nat.le_of_ble_eq_true rfl) rfl rfl rfl (Or.inl rfl) rfl rfl (by decide) ?_
  refine k_aload_n dn_4_20 rfl rfl ?_
  refine k_iconst (v := 0) dn_4_21 rfl ?_
  refine k_putI (ci := 3) (k := 2) dn_4_22 wd_40 (Nat.le_of_ble_eq_true rfl) rfl rfl rfl (Or.inl ⟨rfl, rfl⟩) rfl ?_
  refine k_aload_n dn_4_25 rfl rfl ?_
  refine k_iconst (v := 0) dn_4_26 rfl ?_
  refine k_putI (ci := 3) (k := 3) dn_4_27 wd_44 (Nat.le_of_ble_eq_true rfl) rfl rfl rfl (Or.inl ⟨rfl, rfl⟩) rfl ?_
  refine k_aload_n dn_4_30 rfl rfl ?_
  refine k_iconst (v := 0) dn_4_31 rfl ?_
  refine k_putI (ci := 3) (k := 4) dn_4_32 wd_48 (Nat.le_of_ble_eq_true rfl) rfl rfl rfl (Or.inl ⟨rfl, rfl⟩) rfl ?_
  refine k_aload_n dn_4_35 rfl rfl ?_
  refine k_iconst (v := 1) dn_4_36 rfl ?_
  refine k_putI (ci := 3) (k := 5) dn_4_37 wd_52 (Nat.le_of_ble_eq_true rfl) rfl rfl rfl (Or.inl ⟨rfl, rfl⟩) rfl ?_
  exact k_ret dn_4_40 hq
def q_4_47 (h : Hp) : Hp := (wr (wr (wr (wr (wr (wr h 47 0 1) 47 1 1) 47 2 0) 47 3 0) 47 4 0) 47 5 1)
set_option maxHeartbeats 4000000 in
set_option maxRecDepth 100000 in
theorem n_4_47 (h : Hp) : CN 1 4 [.ref 47] h 48 (q_4_47 h) 50 := by
  refine CN.of mo_4 rfl (Nat.le_of_ble_eq_true rfl) (by decide) (by decide) (fun X hX hq => ?_)
  show K X 1 4 0 [some (.ref 47)] [] h 48
  refine k_aload_n dn_4_0 rfl rfl ?_
  refine k_obj dn_4_1 wd_33 wn_0 (by decide) (by decide) ?_
  refine k_aload_n dn_4_4 rfl rfl ?_
  refine k_bipush (v := 6) dn_4_5 (by decide) ?_
  refine k_newal (N := 6) (n' := 49) dn_4_7 wn_1 rfl rfl (by decide) (by rw [hX]; decide) rfl ?_
  refine k_putR (ci := 3) (k := 0) dn_4_9 wd_34 (Nat.le_of_ble_eq_true rfl) rfl rfl rfl (Or.inl rfl) rfl rfl (by decide) ?_
  refine k_aload_n dn_4_12 rfl rfl ?_
  refine k_bipush (v := 6) dn_4_13 (by decide) ?_
  refine k_newal (N := 6) (n' := 50) dn_4_15 wn_1 rfl rfl (by decide) (by rw [hX]; decide) rfl ?_
  refine k_putR (ci := 3) (k := 1) dn_4_17 wd_37 (Nat.le_of_ble_eq_true rfl) rfl rfl rfl (Or.inl rfl) rfl rfl (by decide) ?_
  refine k_aload_n dn_4_20 rfl rfl ?_
  refine k_iconst (v := 0) dn_4_21 rfl ?_
  refine k_putI (ci := 3) (k := 2) dn_4_22 wd_40 (Nat.le_of_ble_eq_true rfl) rfl rfl rfl (Or.inl ⟨rfl, rfl⟩) rfl ?_
  refine k_aload_n dn_4_25 rfl rfl ?_
  refine k_iconst (v := 0) dn_4_26 rfl ?_
  refine k_putI (ci := 3) (k := 3) dn_4_27 wd_44 (Nat.le_of_ble_eq_true rfl) rfl rfl rfl (Or.inl ⟨rfl, rfl⟩) rfl ?_
  refine k_aload_n dn_4_30 rfl rfl ?_
  refine k_iconst (v := 0) dn_4_31 rfl ?_
  refine k_putI (ci := 3) (k := 4) dn_4_32 wd_48 (Nat.le_of_ble_eq_true rfl) rfl rfl rfl (Or.inl ⟨rfl, rfl⟩) rfl ?_
  refine k_aload_n dn_4_35 rfl rfl ?_
  refine k_iconst (v := 1) dn_4_36 rfl ?_
  refine k_putI (ci := 3) (k := 5) dn_4_37 wd_52 (Nat.le_of_ble_eq_true rfl) rfl rfl rfl (Or.inl ⟨rfl, rfl⟩) rfl ?_
  exact k_ret dn_4_40 hq
theorem dn_5_0 : decode (mth 5).2.1 0 = .ok (.aload_n 0, 1) := by decide +kernel
theorem dn_5_1 : decode (mth 5).2.1 1 = .ok (.invokespecial 3, 3) := by decide +kernel
theorem dn_5_4 : decode (mth 5).2.1 4 = .ok (.aload_n 0, 1) := by decide +kernel
theorem dn_5_5 : decode (mth 5).2.1 5 = .ok (.bipush (6), 2) := by decide +kernel
theorem dn_5_7 : decode (mth 5).2.1 7 = .ok (.newarray .int, 2) := by decide +kernel
theorem dn_5_9 : decode (mth 5).2.1 9 = .ok (.putfield 11, 3) := by decide +kernel
theorem dn_5_12 : decode (mth 5).2.1 12 = .ok (.aload_n 0, 1) := by decide +kernel
theorem dn_5_13 : decode (mth 5).2.1 13 = .ok (.bipush (6), 2) := by decide +kernel
theorem dn_5_15 : decode (mth 5).2.1 15 = .ok (.newarray .int, 2) := by decide +kernel
theorem dn_5_17 : decode (mth 5).2.1 17 = .ok (.putfield 15, 3) := by decide +kernel
theorem dn_5_20 : decode (mth 5).2.1 20 = .ok (.aload_n 0, 1) := by decide +kernel
theorem dn_5_21 : decode (mth 5).2.1 21 = .ok (.bipush (6), 2) := by decide +kernel
theorem dn_5_23 : decode (mth 5).2.1 23 = .ok (.newarray .int, 2) := by decide +kernel
theorem dn_5_25 : decode (mth 5).2.1 25 = .ok (.putfield 18, 3) := by decide +kernel
theorem dn_5_28 : decode (mth 5).2.1 28 = .ok (.aload_n 0, 1) := by decide +kernel
theorem dn_5_29 : decode (mth 5).2.1 29 = .ok (.bipush (6), 2) := by decide +kernel
theorem dn_5_31 : decode (mth 5).2.1 31 = .ok (.newarray .int, 2) := by decide +kernel
theorem dn_5_33 : decode (mth 5).2.1 33 = .ok (.putfield 21, 3) := by decide +kernel
theorem dn_5_36 : decode (mth 5).2.1 36 = .ok (.aload_n 0, 1) := by decide +kernel
theorem dn_5_37 : decode (mth 5).2.1 37 = .ok (.iconst (0), 1) := by decide +kernel
theorem dn_5_38 : decode (mth 5).2.1 38 = .ok (.putfield 24, 3) := by decide +kernel
theorem dn_5_41 : decode (mth 5).2.1 41 = .ok (.aload_n 0, 1) := by decide +kernel
theorem dn_5_42 : decode (mth 5).2.1 42 = .ok (.iconst (0), 1) := by decide +kernel
theorem dn_5_43 : decode (mth 5).2.1 43 = .ok (.putfield 28, 3) := by decide +kernel
theorem dn_5_46 : decode (mth 5).2.1 46 = .ok (.aload_n 0, 1) := by decide +kernel
theorem dn_5_47 : decode (mth 5).2.1 47 = .ok (.iconst (0), 1) := by decide +kernel
theorem dn_5_48 : decode (mth 5).2.1 48 = .ok (.putfield 31, 3) := by decide +kernel
theorem dn_5_51 : decode (mth 5).2.1 51 = .ok (.aload_n 0, 1) := by decide +kernel
theorem dn_5_52 : decode (mth 5).2.1 52 = .ok (.iconst (0), 1) := by decide +kernel
theorem dn_5_53 : decode (mth 5).2.1 53 = .ok (.putfield 34, 3) := by decide +kernel
theorem dn_5_56 : decode (mth 5).2.1 56 = .ok (.aload_n 0, 1) := by decide +kernel
theorem dn_5_57 : decode (mth 5).2.1 57 = .ok (.iconst (0), 1) := by decide +kernel
theorem dn_5_58 : decode (mth 5).2.1 58 = .ok (.putfield 37, 3) := by decide +kernel
theorem dn_5_61 : decode (mth 5).2.1 61 = .ok (.aload_n 0, 1) := by decide +kernel
theorem dn_5_62 : decode (mth 5).2.1 62 = .ok (.iconst (0), 1) := by decide +kernel
theorem dn_5_63 : decode (mth 5).2.1 63 = .ok (.putfield 40, 3) := by decide +kernel
theorem dn_5_66 : decode (mth 5).2.1 66 = .ok (.return_, 1) := by decide +kernel
def q_5_16 (h : Hp) : Hp := (wr (wr (wr (wr (wr (wr (wr (wr (wr (wr h 16 0 1) 16 1 1) 16 2 1) 16 3 1) 16 4 0) 16 5 0) 16 6 0) 16 7 0) 16 8 0) 16 9 0)
set_option maxHeartbeats 4000000 in
set_option maxRecDepth 100000 in
theorem n_5_16 (h : Hp) : CN 1 5 [.ref 16] h 17 (q_5_16 h) 21 := by
  refine CN.of mo_5 rfl (Nat.le_of_ble_eq_true rfl) (by decide) (by decide) (fun X hX hq => ?_)
  show K X 1 5 0 [some (.ref 16)] [] h 17
  refine k_aload_n dn_5_0 rfl rfl ?_
  refine k_obj dn_5_1 wd_56 wn_0 (by decide) (by decide) ?_
  refine k_aload_n dn_5_4 rfl rfl ?_
  refine k_bipush (v := 6) dn_5_5 (by decide) ?_
  refine k_newal (N := 6) (n' := 18) dn_5_7 wn_1 rfl rfl (by decide) (by rw [hX]; decide) rfl ?_
  refine k_putR (ci := 7) (k := 0) dn_5_9 wd_57 (Nat.le_of_ble_eq_true rfl) rfl rfl rfl (Or.inl rfl) rfl rfl (by decide) ?_
  refine k_aload_n dn_5_12 rfl rfl ?_
  refine k_bipush (v := 6) dn_5_13 (by decide) ?_
  refine k_newal (N := 6) (n' := 19) dn_5_15 wn_1 rfl rfl (by decide) (by rw [hX]; decide) rfl ?_
  refine k_putR (ci := 7) (k := 1) dn_5_17 wd_58 (Nat.le_of_ble_eq_true rfl) rfl rfl rfl (Or.inl rfl) rfl rfl (by decide) ?_
  refine k_aload_n dn_5_20 rfl rfl ?_
  refine k_bipush (v := 6) dn_5_21 (by decide) ?_
  refine k_newal (N := 6) (n' := 20) dn_5_23 wn_1 rfl rfl (by decide) (by rw [hX]; decide) rfl ?_
  refine k_putR (ci := 7) (k := 2) dn_5_25 wd_59 (Nat.le_of_ble_eq_true rfl) rfl rfl rfl (Or.inl rfl) rfl rfl (by decide) ?_
  refine k_aload_n dn_5_28 rfl rfl ?_
  refine k_bipush (v := 6) dn_5_29 (by decide) ?_
  refine k_newal (N := 6) (n' := 21) dn_5_31 wn_1 rfl rfl (by decide) (by rw [hX]; decide) rfl ?_
  refine k_putR (ci := 7) (k := 3) dn_5_33 wd_60 (Nat.le_of_ble_eq_true rfl) rfl rfl rfl (Or.inl rfl) rfl rfl (by decide) ?_
  refine k_aload_n dn_5_36 rfl rfl ?_
  refine k_iconst (v := 0) dn_5_37 rfl ?_
  refine k_putI (ci := 7) (k := 4) dn_5_38 wd_61 (Nat.le_of_ble_eq_true rfl) rfl rfl rfl (Or.inl ⟨rfl, rfl⟩) rfl ?_
  refine k_aload_n dn_5_41 rfl rfl ?_
  refine k_iconst (v := 0) dn_5_42 rfl ?_
  refine k_putI (ci := 7) (k := 5) dn_5_43 wd_63 (Nat.le_of_ble_eq_true rfl) rfl rfl rfl (Or.inl ⟨rfl, rfl⟩) rfl ?_
  refine k_aload_n dn_5_46 rfl rfl ?_
  refine k_iconst (v := 0) dn_5_47 rfl ?_
  refine k_putI (ci := 7) (k := 6) dn_5_48 wd_65 (Nat.le_of_ble_eq_true rfl) rfl rfl rfl (Or.inl ⟨rfl, rfl⟩) rfl ?_
  refine k_aload_n dn_5_51 rfl rfl ?_
  refine k_iconst (v := 0) dn_5_52 rfl ?_
  refine k_putI (ci := 7) (k := 7) dn_5_53 wd_67 (Nat.le_of_ble_eq_true rfl) rfl rfl rfl (Or.inl ⟨rfl, rfl⟩) rfl ?_
  refine k_aload_n dn_5_56 rfl rfl ?_
  refine k_iconst (v := 0) dn_5_57 rfl ?_
  refine k_putI (ci := 7) (k := 8) dn_5_58 wd_69 (Nat.le_of_ble_eq_true rfl) rfl rfl rfl (Or.inl ⟨rfl, rfl⟩) rfl ?_
  refine k_aload_n dn_5_61 rfl rfl ?_
  refine k_iconst (v := 0) dn_5_62 rfl ?_
  refine k_putI (ci := 7) (k := 9) dn_5_63 wd_71 (Nat.le_of_ble_eq_true rfl) rfl rfl rfl (Or.inl ⟨rfl, rfl⟩) rfl ?_
  exact k_ret dn_5_66 hq
def q_5_79 (h : Hp) : Hp := (wr (wr (wr (wr (wr (wr (wr (wr (wr (wr h 79 0 1) 79 1 1) 79 2 1) 79 3 1) 79 4 0) 79 5 0) 79 6 0) 79 7 0) 79 8 0) 79 9 0)
set_option maxHeartbeats 4000000 in
set_option maxRecDepth 100000 in
theorem n_5_79 (h : Hp) : CN 1 5 [.ref 79] h 80 (q_5_79 h) 84 := by
  refine CN.of mo_5 rfl (Nat.le_of_ble_eq_true rfl) (by decide) (by decide) (fun X hX hq => ?_)
  show K X 1 5 0 [some (.ref 79)] [] h 80
  refine k_aload_n dn_5_0 rfl rfl ?_
  refine k_obj dn_5_1 wd_56 wn_0 (by decide) (by decide) ?_
  refine k_aload_n dn_5_4 rfl rfl ?_
  refine k_bipush (v := 6) dn_5_5 (by decide) ?_
  refine k_newal (N := 6) (n' := 81) dn_5_7 wn_1 rfl rfl (by decide) (by rw [hX]; decide) rfl ?_
  refine k_putR (ci := 7) (k := 0) dn_5_9 wd_57 (Nat.le_of_ble_eq_true rfl) rfl rfl rfl (Or.inl rfl) rfl rfl (by decide) ?_
  refine k_aload_n dn_5_12 rfl rfl ?_
  refine k_bipush (v := 6) dn_5_13 (by decide) ?_
  refine k_newal (N := 6) (n' := 82) dn_5_15 wn_1 rfl rfl (by decide) (by rw [hX]; decide) rfl ?_
  refine k_putR (ci := 7) (k := 1) dn_5_17 wd_58 (Nat.le_of_ble_eq_true rfl) rfl rfl rfl (Or.inl rfl) rfl rfl (by decide) ?_
  refine k_aload_n dn_5_20 rfl rfl ?_
  refine k_bipush (v := 6) dn_5_21 (by decide) ?_
  refine k_newal (N := 6) (n' := 83) dn_5_23 wn_1 rfl rfl (by decide) (by rw [hX]; decide) rfl ?_
  refine k_putR (ci := 7) (k := 2) dn_5_25 wd_59 (Nat.le_of_ble_eq_true rfl) rfl rfl rfl (Or.inl rfl) rfl rfl (by decide) ?_
  refine k_aload_n dn_5_28 rfl rfl ?_
  refine k_bipush (v := 6) dn_5_29 (by decide) ?_
  refine k_newal (N := 6) (n' := 84) dn_5_31 wn_1 rfl rfl (by decide) (by rw [hX]; decide) rfl ?_
  refine k_putR (ci := 7) (k := 3) dn_5_33 wd_60 (Nat.le_of_ble_eq_true rfl) rfl rfl rfl (Or.inl rfl) rfl rfl (by decide) ?_
  refine k_aload_n dn_5_36 rfl rfl ?_
  refine k_iconst (v := 0) dn_5_37 rfl ?_
  refine k_putI (ci := 7) (k := 4) dn_5_38 wd_61 (Nat.le_of_ble_eq_true rfl) rfl rfl rfl (Or.inl ⟨rfl, rfl⟩) rfl ?_
  refine k_aload_n dn_5_41 rfl rfl ?_
  refine k_iconst (v := 0) dn_5_42 rfl ?_
  refine k_putI (ci := 7) (k := 5) dn_5_43 wd_63 (Nat.le_of_ble_eq_true rfl) rfl rfl rfl (Or.inl ⟨rfl, rfl⟩) rfl ?_
  refine k_aload_n dn_5_46 rfl rfl ?_
  refine k_iconst (v := 0) dn_5_47 rfl ?_
  refine k_putI (ci := 7) (k := 6) dn_5_48 wd_65 (Nat.le_of_ble_eq_true rfl) rfl rfl rfl (Or.inl ⟨rfl, rfl⟩) rfl ?_
  refine k_aload_n dn_5_51 rfl rfl ?_
  refine k_iconst (v := 0) dn_5_52 rfl ?_
  refine k_putI (ci := 7) (k := 7) dn_5_53 wd_67 (Nat.le_of_ble_eq_true rfl) rfl rfl rfl (Or.inl ⟨rfl, rfl⟩) rfl ?_
  refine k_aload_n dn_5_56 rfl rfl ?_
  refine k_iconst (v := 0) dn_5_57 rfl ?_
  refine k_putI (ci := 7) (k := 8) dn_5_58 wd_69 (Nat.le_of_ble_eq_true rfl) rfl rfl rfl (Or.inl ⟨rfl, rfl⟩) rfl ?_
  refine k_aload_n dn_5_61 rfl rfl ?_
  refine k_iconst (v := 0) dn_5_62 rfl ?_
  refine k_putI (ci := 7) (k := 9) dn_5_63 wd_71 (Nat.le_of_ble_eq_true rfl) rfl rfl rfl (Or.inl ⟨rfl, rfl⟩) rfl ?_
  exact k_ret dn_5_66 hq
theorem dn_9_0 : decode (mth 9).2.1 0 = .ok (.aload_n 0, 1) := by decide +kernel
theorem dn_9_1 : decode (mth 9).2.1 1 = .ok (.invokespecial 3, 3) := by decide +kernel
theorem dn_9_4 : decode (mth 9).2.1 4 = .ok (.aload_n 0, 1) := by decide +kernel
theorem dn_9_5 : decode (mth 9).2.1 5 = .ok (.bipush (30), 2) := by decide +kernel
theorem dn_9_7 : decode (mth 9).2.1 7 = .ok (.newarray .int, 2) := by decide +kernel
theorem dn_9_9 : decode (mth 9).2.1 9 = .ok (.putfield 11, 3) := by decide +kernel
theorem dn_9_12 : decode (mth 9).2.1 12 = .ok (.aload_n 0, 1) := by decide +kernel
theorem dn_9_13 : decode (mth 9).2.1 13 = .ok (.iconst (0), 1) := by decide +kernel
theorem dn_9_14 : decode (mth 9).2.1 14 = .ok (.putfield 15, 3) := by decide +kernel
theorem dn_9_17 : decode (mth 9).2.1 17 = .ok (.aload_n 0, 1) := by decide +kernel
theorem dn_9_18 : decode (mth 9).2.1 18 = .ok (.iconst (0), 1) := by decide +kernel
theorem dn_9_19 : decode (mth 9).2.1 19 = .ok (.putfield 19, 3) := by decide +kernel
theorem dn_9_22 : decode (mth 9).2.1 22 = .ok (.aload_n 0, 1) := by decide +kernel
theorem dn_9_23 : decode (mth 9).2.1 23 = .ok (.iconst (0), 1) := by decide +kernel
theorem dn_9_24 : decode (mth 9).2.1 24 = .ok (.putfield 23, 3) := by decide +kernel
theorem dn_9_27 : decode (mth 9).2.1 27 = .ok (.aload_n 0, 1) := by decide +kernel
theorem dn_9_28 : decode (mth 9).2.1 28 = .ok (.iconst (0), 1) := by decide +kernel
theorem dn_9_29 : decode (mth 9).2.1 29 = .ok (.putfield 26, 3) := by decide +kernel
theorem dn_9_32 : decode (mth 9).2.1 32 = .ok (.aload_n 0, 1) := by decide +kernel
theorem dn_9_33 : decode (mth 9).2.1 33 = .ok (.iconst (0), 1) := by decide +kernel
theorem dn_9_34 : decode (mth 9).2.1 34 = .ok (.putfield 29, 3) := by decide +kernel
theorem dn_9_37 : decode (mth 9).2.1 37 = .ok (.return_, 1) := by decide +kernel
def q_9_61 (h : Hp) : Hp := (wr (wr (wr (wr (wr (wr h 61 0 1) 61 1 0) 61 2 0) 61 3 0) 61 4 0) 61 5 0)
set_option maxHeartbeats 4000000 in
set_option maxRecDepth 100000 in
theorem n_9_61 (h : Hp) : CN 1 9 [.ref 61] h 62 (q_9_61 h) 63 := by
  refine CN.of mo_9 rfl (Nat.le_of_ble_eq_true rfl) (by decide) (by decide) (fun X hX hq => ?_)
  show K X 1 9 0 [some (.ref 61)] [] h 62
  refine k_aload_n dn_9_0 rfl rfl ?_
  refine k_obj dn_9_1 wd_120 wn_0 (by decide) (by decide) ?_
  refine k_aload_n dn_9_4 rfl rfl ?_
  refine k_bipush (v := 30) dn_9_5 (by decide) ?_
  refine k_newal (N := 30) (n' := 63) dn_9_7 wn_1 rfl rfl (by decide) (by rw [hX]; decide) rfl ?_
  refine k_putR (ci := 0) (k := 0) dn_9_9 wd_121 (Nat.le_of_ble_eq_true rfl) rfl rfl rfl (Or.inr rfl) rfl rfl (by decide) ?_
  refine k_aload_n dn_9_12 rfl rfl ?_
  refine k_iconst (v := 0) dn_9_13 rfl ?_
  refine k_putI (ci := 0) (k := 1) dn_9_14 wd_123 (Nat.le_of_ble_eq_true rfl) rfl rfl rfl (Or.inl ⟨rfl, rfl⟩) rfl ?_
  refine k_aload_n dn_9_17 rfl rfl ?_
  refine k_iconst (v := 0) dn_9_18 rfl ?_
  refine k_putI (ci := 0) (k := 2) dn_9_19 wd_125 (Nat.le_of_ble_eq_true rfl) rfl rfl rfl (Or.inr ⟨rfl, rfl, Or.inl rfl⟩) rfl ?_
  refine k_aload_n dn_9_22 rfl rfl ?_
  refine k_iconst (v := 0) dn_9_23 rfl ?_
  refine k_putI (ci := 0) (k := 3) dn_9_24 wd_126 (Nat.le_of_ble_eq_true rfl) rfl rfl rfl (Or.inl ⟨rfl, rfl⟩) rfl ?_
  refine k_aload_n dn_9_27 rfl rfl ?_
  refine k_iconst (v := 0) dn_9_28 rfl ?_
  refine k_putI (ci := 0) (k := 4) dn_9_29 wd_127 (Nat.le_of_ble_eq_true rfl) rfl rfl rfl (Or.inl ⟨rfl, rfl⟩) rfl ?_
  refine k_aload_n dn_9_32 rfl rfl ?_
  refine k_iconst (v := 0) dn_9_33 rfl ?_
  refine k_putI (ci := 0) (k := 5) dn_9_34 wd_128 (Nat.le_of_ble_eq_true rfl) rfl rfl rfl (Or.inl ⟨rfl, rfl⟩) rfl ?_
  exact k_ret dn_9_37 hq
