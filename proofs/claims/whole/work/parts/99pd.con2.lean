/-! part 99pd: constructors: stage, reader (written by wip/whole/gencon.py) -/
theorem dn_2_0 : decode (mth 2).2.1 0 = .ok (.aload_n 0, 1) := by decide +kernel
theorem dn_2_1 : decode (mth 2).2.1 1 = .ok (.invokespecial 3, 3) := by decide +kernel
theorem dn_2_4 : decode (mth 2).2.1 4 = .ok (.aload_n 0, 1) := by decide +kernel
theorem dn_2_5 : decode (mth 2).2.1 5 = .ok (.bipush (6), 2) := by decide +kernel
theorem dn_2_7 : decode (mth 2).2.1 7 = .ok (.newarray .int, 2) := by decide +kernel
theorem dn_2_9 : decode (mth 2).2.1 9 = .ok (.putfield 9, 3) := by decide +kernel
theorem dn_2_12 : decode (mth 2).2.1 12 = .ok (.aload_n 0, 1) := by decide +kernel
theorem dn_2_13 : decode (mth 2).2.1 13 = .ok (.bipush (6), 2) := by decide +kernel
theorem dn_2_15 : decode (mth 2).2.1 15 = .ok (.newarray .int, 2) := by decide +kernel
theorem dn_2_17 : decode (mth 2).2.1 17 = .ok (.putfield 15, 3) := by decide +kernel
theorem dn_2_20 : decode (mth 2).2.1 20 = .ok (.aload_n 0, 1) := by decide +kernel
theorem dn_2_21 : decode (mth 2).2.1 21 = .ok (.bipush (16), 2) := by decide +kernel
theorem dn_2_23 : decode (mth 2).2.1 23 = .ok (.newarray .int, 2) := by decide +kernel
theorem dn_2_25 : decode (mth 2).2.1 25 = .ok (.putfield 18, 3) := by decide +kernel
theorem dn_2_28 : decode (mth 2).2.1 28 = .ok (.aload_n 0, 1) := by decide +kernel
theorem dn_2_29 : decode (mth 2).2.1 29 = .ok (.bipush (6), 2) := by decide +kernel
theorem dn_2_31 : decode (mth 2).2.1 31 = .ok (.newarray .int, 2) := by decide +kernel
theorem dn_2_33 : decode (mth 2).2.1 33 = .ok (.putfield 21, 3) := by decide +kernel
theorem dn_2_36 : decode (mth 2).2.1 36 = .ok (.aload_n 0, 1) := by decide +kernel
theorem dn_2_37 : decode (mth 2).2.1 37 = .ok (.bipush (6), 2) := by decide +kernel
theorem dn_2_39 : decode (mth 2).2.1 39 = .ok (.newarray .int, 2) := by decide +kernel
theorem dn_2_41 : decode (mth 2).2.1 41 = .ok (.putfield 24, 3) := by decide +kernel
theorem dn_2_44 : decode (mth 2).2.1 44 = .ok (.aload_n 0, 1) := by decide +kernel
theorem dn_2_45 : decode (mth 2).2.1 45 = .ok (.new 27, 3) := by decide +kernel
set_option maxRecDepth 100000 in
theorem wn_2 : Jvm.Cond.classLink "PlayedTruth$Stage" 27 "PlayedTruth$Rules" ∈ tbl := in_t1 (List.mem_of_getElem? (i := 33) rfl) rfl
set_option maxRecDepth 100000 in
theorem wn_3 : Jvm.Cond.instantiable "PlayedTruth$Rules" 6 ∈ tbl := in_t1 (List.mem_of_getElem? (i := 34) rfl) rfl
set_option maxRecDepth 100000 in
theorem wn_4 : Jvm.Cond.initialized "PlayedTruth$Rules" ∈ tbl := in_t1 (List.mem_of_getElem? (i := 3) rfl) rfl
theorem dn_2_48 : decode (mth 2).2.1 48 = .ok (.dup, 1) := by decide +kernel
theorem dn_2_49 : decode (mth 2).2.1 49 = .ok (.invokespecial 29, 3) := by decide +kernel
set_option maxRecDepth 100000 in
theorem wn_5 : Jvm.Cond.instanceMethod ⟨"PlayedTruth$Rules", "<init>", "()V"⟩ ∈ tbl := in_t1 (List.mem_of_getElem? (i := 36) rfl) rfl
theorem dn_2_52 : decode (mth 2).2.1 52 = .ok (.putfield 30, 3) := by decide +kernel
theorem dn_2_55 : decode (mth 2).2.1 55 = .ok (.aload_n 0, 1) := by decide +kernel
theorem dn_2_56 : decode (mth 2).2.1 56 = .ok (.iconst (5), 1) := by decide +kernel
theorem dn_2_57 : decode (mth 2).2.1 57 = .ok (.newarray .int, 2) := by decide +kernel
theorem dn_2_59 : decode (mth 2).2.1 59 = .ok (.putfield 34, 3) := by decide +kernel
theorem dn_2_62 : decode (mth 2).2.1 62 = .ok (.aload_n 0, 1) := by decide +kernel
theorem dn_2_63 : decode (mth 2).2.1 63 = .ok (.iconst (0), 1) := by decide +kernel
theorem dn_2_64 : decode (mth 2).2.1 64 = .ok (.putfield 37, 3) := by decide +kernel
theorem dn_2_67 : decode (mth 2).2.1 67 = .ok (.aload_n 0, 1) := by decide +kernel
theorem dn_2_68 : decode (mth 2).2.1 68 = .ok (.bipush (12), 2) := by decide +kernel
theorem dn_2_70 : decode (mth 2).2.1 70 = .ok (.putfield 41, 3) := by decide +kernel
theorem dn_2_73 : decode (mth 2).2.1 73 = .ok (.iconst (0), 1) := by decide +kernel
theorem dn_2_74 : decode (mth 2).2.1 74 = .ok (.istore_n 1, 1) := by decide +kernel
theorem dn_2_75 : decode (mth 2).2.1 75 = .ok (.iload_n 1, 1) := by decide +kernel
theorem dn_2_76 : decode (mth 2).2.1 76 = .ok (.bipush (16), 2) := by decide +kernel
theorem dn_2_78 : decode (mth 2).2.1 78 = .ok (.if_icmp .ge 17, 3) := by decide +kernel
theorem dn_2_81 : decode (mth 2).2.1 81 = .ok (.aload_n 0, 1) := by decide +kernel
theorem dn_2_82 : decode (mth 2).2.1 82 = .ok (.getfield 18, 3) := by decide +kernel
theorem dn_2_85 : decode (mth 2).2.1 85 = .ok (.iload_n 1, 1) := by decide +kernel
theorem dn_2_86 : decode (mth 2).2.1 86 = .ok (.bipush (9), 2) := by decide +kernel
theorem dn_2_88 : decode (mth 2).2.1 88 = .ok (.iastore, 1) := by decide +kernel
theorem dn_2_89 : decode (mth 2).2.1 89 = .ok (.iinc 1 1, 3) := by decide +kernel
theorem dn_2_92 : decode (mth 2).2.1 92 = .ok (.goto (-17), 3) := by decide +kernel
theorem dn_2_95 : decode (mth 2).2.1 95 = .ok (.return_, 1) := by decide +kernel
def q_2_1 (h : Hp) : Hp := (wr (wr (wr (wr (wr (wr (wr (wr (wr (wr (wr (wr (wr (wr (wr (wr (wr (wr (wr (wr (q_3_7 (wr (wr (wr (wr (wr h 1 0 1) 1 1 1) 1 2 1) 1 3 1) 1 4 1)) 1 5 1) 1 6 1) 1 7 0) 1 8 12) 4 0 9) 4 1 9) 4 2 9) 4 3 9) 4 4 9) 4 5 9) 4 6 9) 4 7 9) 4 8 9) 4 9 9) 4 10 9) 4 11 9) 4 12 9) 4 13 9) 4 14 9) 4 15 9)
set_option maxHeartbeats 4000000 in
set_option maxRecDepth 100000 in
theorem n_2_1 (h : Hp) : CN 2 2 [.ref 1] h 2 (q_2_1 h) 13 := by
  refine CN.of mo_2 rfl (Nat.le_of_ble_eq_true rfl) (by decide) (by decide) (fun X hX hq => ?_)
  show K X 2 2 0 [some (.ref 1), none] [] h 2
  refine k_aload_n dn_2_0 rfl rfl ?_
  refine k_obj dn_2_1 wd_3 wn_0 (by decide) (by decide) ?_
  refine k_aload_n dn_2_4 rfl rfl ?_
  refine k_bipush (v := 6) dn_2_5 (by decide) ?_
  refine k_newal (N := 6) (n' := 3) dn_2_7 wn_1 rfl rfl (by decide) (by rw [hX]; decide) rfl ?_
  refine k_putR (ci := 6) (k := 0) dn_2_9 wd_14 (Nat.le_of_ble_eq_true rfl) rfl rfl rfl (Or.inl rfl) rfl rfl (by decide) ?_
  refine k_aload_n dn_2_12 rfl rfl ?_
  refine k_bipush (v := 6) dn_2_13 (by decide) ?_
  refine k_newal (N := 6) (n' := 4) dn_2_15 wn_1 rfl rfl (by decide) (by rw [hX]; decide) rfl ?_
  refine k_putR (ci := 6) (k := 1) dn_2_17 wd_16 (Nat.le_of_ble_eq_true rfl) rfl rfl rfl (Or.inl rfl) rfl rfl (by decide) ?_
  refine k_aload_n dn_2_20 rfl rfl ?_
  refine k_bipush (v := 16) dn_2_21 (by decide) ?_
  refine k_newal (N := 16) (n' := 5) dn_2_23 wn_1 rfl rfl (by decide) (by rw [hX]; decide) rfl ?_
  refine k_putR (ci := 6) (k := 2) dn_2_25 wd_18 (Nat.le_of_ble_eq_true rfl) rfl rfl rfl (Or.inl rfl) rfl rfl (by decide) ?_
  refine k_aload_n dn_2_28 rfl rfl ?_
  refine k_bipush (v := 6) dn_2_29 (by decide) ?_
  refine k_newal (N := 6) (n' := 6) dn_2_31 wn_1 rfl rfl (by decide) (by rw [hX]; decide) rfl ?_
  refine k_putR (ci := 6) (k := 3) dn_2_33 wd_20 (Nat.le_of_ble_eq_true rfl) rfl rfl rfl (Or.inl rfl) rfl rfl (by decide) ?_
  refine k_aload_n dn_2_36 rfl rfl ?_
  refine k_bipush (v := 6) dn_2_37 (by decide) ?_
  refine k_newal (N := 6) (n' := 7) dn_2_39 wn_1 rfl rfl (by decide) (by rw [hX]; decide) rfl ?_
  refine k_putR (ci := 6) (k := 4) dn_2_41 wd_22 (Nat.le_of_ble_eq_true rfl) rfl rfl rfl (Or.inl rfl) rfl rfl (by decide) ?_
  refine k_aload_n dn_2_44 rfl rfl ?_
  refine k_newl (ci := 5) (n' := 8) dn_2_45 wn_2 wn_3 wn_4 rfl (by rw [hX]; decide) rfl ?_
  refine k_dup dn_2_48 rfl ?_
  refine k_callN (mj := 3) (As := []) (t := [.ref 7, .ref 1]) dn_2_49 (by decide) mo_3 mc_3 wn_4 wn_5 rfl rfl rfl (by decide) (Nat.le_of_ble_eq_true rfl) (by rw [hX]; decide) (n_3_7 _) ?_
  refine k_putR (ci := 6) (k := 5) dn_2_52 wd_24 (Nat.le_of_ble_eq_true rfl) rfl rfl rfl (Or.inl rfl) rfl rfl (by decide) ?_
  refine k_aload_n dn_2_55 rfl rfl ?_
  refine k_iconst (v := 5) dn_2_56 rfl ?_
  refine k_newal (N := 5) (n' := 13) dn_2_57 wn_1 rfl rfl (by decide) (by rw [hX]; decide) rfl ?_
  refine k_putR (ci := 6) (k := 6) dn_2_59 wd_26 (Nat.le_of_ble_eq_true rfl) rfl rfl rfl (Or.inl rfl) rfl rfl (by decide) ?_
  refine k_aload_n dn_2_62 rfl rfl ?_
  refine k_iconst (v := 0) dn_2_63 rfl ?_
  refine k_putI (ci := 6) (k := 7) dn_2_64 wd_27 (Nat.le_of_ble_eq_true rfl) rfl rfl rfl (Or.inl ⟨rfl, rfl⟩) rfl ?_
  refine k_aload_n dn_2_67 rfl rfl ?_
  refine k_bipush (v := 12) dn_2_68 (by decide) ?_
  refine k_putI (ci := 6) (k := 8) dn_2_70 wd_30 (Nat.le_of_ble_eq_true rfl) rfl rfl rfl (Or.inl ⟨rfl, rfl⟩) rfl ?_
  refine k_iconst (v := 0) dn_2_73 rfl ?_
  refine k_istl (lv' := [some (.ref 1), some (.int 0)]) dn_2_74 rfl (Nat.le_of_ble_eq_true rfl) rfl rfl ?_
  refine k_iload_n dn_2_75 rfl rfl ?_
  refine k_bipush (v := 16) dn_2_76 (by decide) ?_
  refine k_icmp_ge (tgt := 95) dn_2_78 rfl (fun q => absurd q (by decide)) (fun _ => ?_)
  refine k_aload_n dn_2_81 rfl rfl ?_
  refine k_getR (ci := 6) (k := 2) (b := 4) dn_2_82 wd_18 (Nat.le_of_ble_eq_true rfl) rfl (Or.inl rfl) rfl rfl (by simp [wr, q_3_23, q_3_7, q_3_70, q_4_13, q_4_35, q_4_38, q_4_41, q_4_44, q_4_47, q_4_76, q_5_16, q_5_79, q_9_61]) ?_
  refine k_iload_n dn_2_85 rfl rfl ?_
  refine k_bipush (v := 9) dn_2_86 (by decide) ?_
  refine k_iast (N := 16) (j := 0) dn_2_88 rfl rfl (by decide) (by decide) ?_
  refine k_iincl (w := 1) (y := 1) (lv' := [some (.ref 1), some (.int 1)]) dn_2_89 rfl (by decide) (by decide) (Nat.le_of_ble_eq_true rfl) rfl rfl ?_
  refine k_goto (tgt := 75) dn_2_92 rfl ?_
  refine k_iload_n dn_2_75 rfl rfl ?_
  refine k_bipush (v := 16) dn_2_76 (by decide) ?_
  refine k_icmp_ge (tgt := 95) dn_2_78 rfl (fun q => absurd q (by decide)) (fun _ => ?_)
  refine k_aload_n dn_2_81 rfl rfl ?_
  refine k_getR (ci := 6) (k := 2) (b := 4) dn_2_82 wd_18 (Nat.le_of_ble_eq_true rfl) rfl (Or.inl rfl) rfl rfl (by simp [wr, q_3_23, q_3_7, q_3_70, q_4_13, q_4_35, q_4_38, q_4_41, q_4_44, q_4_47, q_4_76, q_5_16, q_5_79, q_9_61]) ?_
  refine k_iload_n dn_2_85 rfl rfl ?_
  refine k_bipush (v := 9) dn_2_86 (by decide) ?_
  refine k_iast (N := 16) (j := 1) dn_2_88 rfl rfl (by decide) (by decide) ?_
  refine k_iincl (w := 1) (y := 2) (lv' := [some (.ref 1), some (.int 2)]) dn_2_89 rfl (by decide) (by decide) (Nat.le_of_ble_eq_true rfl) rfl rfl ?_
  refine k_goto (tgt := 75) dn_2_92 rfl ?_
  refine k_iload_n dn_2_75 rfl rfl ?_
  refine k_bipush (v := 16) dn_2_76 (by decide) ?_
  refine k_icmp_ge (tgt := 95) dn_2_78 rfl (fun q => absurd q (by decide)) (fun _ => ?_)
  refine k_aload_n dn_2_81 rfl rfl ?_
  refine k_getR (ci := 6) (k := 2) (b := 4) dn_2_82 wd_18 (Nat.le_of_ble_eq_true rfl) rfl (Or.inl rfl) rfl rfl (by simp [wr, q_3_23, q_3_7, q_3_70, q_4_13, q_4_35, q_4_38, q_4_41, q_4_44, q_4_47, q_4_76, q_5_16, q_5_79, q_9_61]) ?_
  refine k_iload_n dn_2_85 rfl rfl ?_
  refine k_bipush (v := 9) dn_2_86 (by decide) ?_
  refine k_iast (N := 16) (j := 2) dn_2_88 rfl rfl (by decide) (by decide) ?_
  refine k_iincl (w := 1) (y := 3) (lv' := [some (.ref 1), some (.int 3)]) dn_2_89 rfl (by decide) (by decide) (Nat.le_of_ble_eq_true rfl) rfl rfl ?_
  refine k_goto (tgt := 75) dn_2_92 rfl ?_
  refine k_iload_n dn_2_75 rfl rfl ?_
  refine k_bipush (v := 16) dn_2_76 (by decide) ?_
  refine k_icmp_ge (tgt := 95) dn_2_78 rfl (fun q => absurd q (by decide)) (fun _ => ?_)
  refine k_aload_n dn_2_81 rfl rfl ?_
  refine k_getR (ci := 6) (k := 2) (b := 4) dn_2_82 wd_18 (Nat.le_of_ble_eq_true rfl) rfl (Or.inl rfl) rfl rfl (by simp [wr, q_3_23, q_3_7, q_3_70, q_4_13, q_4_35, q_4_38, q_4_41, q_4_44, q_4_47, q_4_76, q_5_16, q_5_79, q_9_61]) ?_
  refine k_iload_n dn_2_85 rfl rfl ?_
  refine k_bipush (v := 9) dn_2_86 (by decide) ?_
  refine k_iast (N := 16) (j := 3) dn_2_88 rfl rfl (by decide) (by decide) ?_
  refine k_iincl (w := 1) (y := 4) (lv' := [some (.ref 1), some (.int 4)]) dn_2_89 rfl (by decide) (by decide) (Nat.le_of_ble_eq_true rfl) rfl rfl ?_
  refine k_goto (tgt := 75) dn_2_92 rfl ?_
  refine k_iload_n dn_2_75 rfl rfl ?_
  refine k_bipush (v := 16) dn_2_76 (by decide) ?_
  refine k_icmp_ge (tgt := 95) dn_2_78 rfl (fun q => absurd q (by decide)) (fun _ => ?_)
  refine k_aload_n dn_2_81 rfl rfl ?_
  refine k_getR (ci := 6) (k := 2) (b := 4) dn_2_82 wd_18 (Nat.le_of_ble_eq_true rfl) rfl (Or.inl rfl) rfl rfl (by simp [wr, q_3_23, q_3_7, q_3_70, q_4_13, q_4_35, q_4_38, q_4_41, q_4_44, q_4_47, q_4_76, q_5_16, q_5_79, q_9_61]) ?_
  refine k_iload_n dn_2_85 rfl rfl ?_
  refine k_bipush (v := 9) dn_2_86 (by decide) ?_
  refine k_iast (N := 16) (j := 4) dn_2_88 rfl rfl (by decide) (by decide) ?_
  refine k_iincl (w := 1) (y := 5) (lv' := [some (.ref 1), some (.int 5)]) dn_2_89 rfl (by decide) (by decide) (Nat.le_of_ble_eq_true rfl) rfl rfl ?_
  refine k_goto (tgt := 75) dn_2_92 rfl ?_
  refine k_iload_n dn_2_75 rfl rfl ?_
  refine k_bipush (v := 16) dn_2_76 (by decide) ?_
  refine k_icmp_ge (tgt := 95) dn_2_78 rfl (fun q => absurd q (by decide)) (fun _ => ?_)
  refine k_aload_n dn_2_81 rfl rfl ?_
  refine k_getR (ci := 6) (k := 2) (b := 4) dn_2_82 wd_18 (Nat.le_of_ble_eq_true rfl) rfl (Or.inl rfl) rfl rfl (by simp [wr, q_3_23, q_3_7, q_3_70, q_4_13, q_4_35, q_4_38, q_4_41, q_4_44, q_4_47, q_4_76, q_5_16, q_5_79, q_9_61]) ?_
  refine k_iload_n dn_2_85 rfl rfl ?_
  refine k_bipush (v := 9) dn_2_86 (by decide) ?_
  refine k_iast (N := 16) (j := 5) dn_2_88 rfl rfl (by decide) (by decide) ?_
  refine k_iincl (w := 1) (y := 6) (lv' := [some (.ref 1), some (.int 6)]) dn_2_89 rfl (by decide) (by decide) (Nat.le_of_ble_eq_true rfl) rfl rfl ?_
  refine k_goto (tgt := 75) dn_2_92 rfl ?_
  refine k_iload_n dn_2_75 rfl rfl ?_
  refine k_bipush (v := 16) dn_2_76 (by decide) ?_
  refine k_icmp_ge (tgt := 95) dn_2_78 rfl (fun q => absurd q (by decide)) (fun _ => ?_)
  refine k_aload_n dn_2_81 rfl rfl ?_
  refine k_getR (ci := 6) (k := 2) (b := 4) dn_2_82 wd_18 (Nat.le_of_ble_eq_true rfl) rfl (Or.inl rfl) rfl rfl (by simp [wr, q_3_23, q_3_7, q_3_70, q_4_13, q_4_35, q_4_38, q_4_41, q_4_44, q_4_47, q_4_76, q_5_16, q_5_79, q_9_61]) ?_
  refine k_iload_n dn_2_85 rfl rfl ?_
  refine k_bipush (v := 9) dn_2_86 (by decide) ?_
  refine k_iast (N := 16) (j := 6) dn_2_88 rfl rfl (by decide) (by decide) ?_
  refine k_iincl (w := 1) (y := 7) (lv' := [some (.ref 1), some (.int 7)]) dn_2_89 rfl (by decide) (by decide) (Nat.le_of_ble_eq_true rfl) rfl rfl ?_
  refine k_goto (tgt := 75) dn_2_92 rfl ?_
  refine k_iload_n dn_2_75 rfl rfl ?_
  refine k_bipush (v := 16) dn_2_76 (by decide) ?_
  refine k_icmp_ge (tgt := 95) dn_2_78 rfl (fun q => absurd q (by decide)) (fun _ => ?_)
  refine k_aload_n dn_2_81 rfl rfl ?_
  refine k_getR (ci := 6) (k := 2) (b := 4) dn_2_82 wd_18 (Nat.le_of_ble_eq_true rfl) rfl (Or.inl rfl) rfl rfl (by simp [wr, q_3_23, q_3_7, q_3_70, q_4_13, q_4_35, q_4_38, q_4_41, q_4_44, q_4_47, q_4_76, q_5_16, q_5_79, q_9_61]) ?_
  refine k_iload_n dn_2_85 rfl rfl ?_
  refine k_bipush (v := 9) dn_2_86 (by decide) ?_
  refine k_iast (N := 16) (j := 7) dn_2_88 rfl rfl (by decide) (by decide) ?_
  refine k_iincl (w := 1) (y := 8) (lv' := [some (.ref 1), some (.int 8)]) dn_2_89 rfl (by decide) (by decide) (Nat.le_of_ble_eq_true rfl) rfl rfl ?_
  refine k_goto (tgt := 75) dn_2_92 rfl ?_
  refine k_iload_n dn_2_75 rfl rfl ?_
  refine k_bipush (v := 16) dn_2_76 (by decide) ?_
  refine k_icmp_ge (tgt := 95) dn_2_78 rfl (fun q => absurd q (by decide)) (fun _ => ?_)
  refine k_aload_n dn_2_81 rfl rfl ?_
  refine k_getR (ci := 6) (k := 2) (b := 4) dn_2_82 wd_18 (Nat.le_of_ble_eq_true rfl) rfl (Or.inl rfl) rfl rfl (by simp [wr, q_3_23, q_3_7, q_3_70, q_4_13, q_4_35, q_4_38, q_4_41, q_4_44, q_4_47, q_4_76, q_5_16, q_5_79, q_9_61]) ?_
  refine k_iload_n dn_2_85 rfl rfl ?_
  refine k_bipush (v := 9) dn_2_86 (by decide) ?_
  refine k_iast (N := 16) (j := 8) dn_2_88 rfl rfl (by decide) (by decide) ?_
  refine k_iincl (w := 1) (y := 9) (lv' := [some (.ref 1), some (.int 9)]) dn_2_89 rfl (by decide) (by decide) (Nat.le_of_ble_eq_true rfl) rfl rfl ?_
  refine k_goto (tgt := 75) dn_2_92 rfl ?_
  refine k_iload_n dn_2_75 rfl rfl ?_
  refine k_bipush (v := 16) dn_2_76 (by decide) ?_
  refine k_icmp_ge (tgt := 95) dn_2_78 rfl (fun q => absurd q (by decide)) (fun _ => ?_)
  refine k_aload_n dn_2_81 rfl rfl ?_
  refine k_getR (ci := 6) (k := 2) (b := 4) dn_2_82 wd_18 (Nat.le_of_ble_eq_true rfl) rfl (Or.inl rfl) rfl rfl (by simp [wr, q_3_23, q_3_7, q_3_70, q_4_13, q_4_35, q_4_38, q_4_41, q_4_44, q_4_47, q_4_76, q_5_16, q_5_79, q_9_61]) ?_
  refine k_iload_n dn_2_85 rfl rfl ?_
  refine k_bipush (v := 9) dn_2_86 (by decide) ?_
  refine k_iast (N := 16) (j := 9) dn_2_88 rfl rfl (by decide) (by decide) ?_
  refine k_iincl (w := 1) (y := 10) (lv' := [some (.ref 1), some (.int 10)]) dn_2_89 rfl (by decide) (by decide) (Nat.le_of_ble_eq_true rfl) rfl rfl ?_
  refine k_goto (tgt := 75) dn_2_92 rfl ?_
  refine k_iload_n dn_2_75 rfl rfl ?_
  refine k_bipush (v := 16) dn_2_76 (by decide) ?_
  refine k_icmp_ge (tgt := 95) dn_2_78 rfl (fun q => absurd q (by decide)) (fun _ => ?_)
  refine k_aload_n dn_2_81 rfl rfl ?_
  refine k_getR (ci := 6) (k := 2) (b := 4) dn_2_82 wd_18 (Nat.le_of_ble_eq_true rfl) rfl (Or.inl rfl) rfl rfl (by simp [wr, q_3_23, q_3_7, q_3_70, q_4_13, q_4_35, q_4_38, q_4_41, q_4_44, q_4_47, q_4_76, q_5_16, q_5_79, q_9_61]) ?_
  refine k_iload_n dn_2_85 rfl rfl ?_
  refine k_bipush (v := 9) dn_2_86 (by decide) ?_
  refine k_iast (N := 16) (j := 10) dn_2_88 rfl rfl (by decide) (by decide) ?_
  refine k_iincl (w := 1) (y := 11) (lv' := [some (.ref 1), some (.int 11)]) dn_2_89 rfl (by decide) (by decide) (Nat.le_of_ble_eq_true rfl) rfl rfl ?_
  refine k_goto (tgt := 75) dn_2_92 rfl ?_
  refine k_iload_n dn_2_75 rfl rfl ?_
  refine k_bipush (v := 16) dn_2_76 (by decide) ?_
  refine k_icmp_ge (tgt := 95) dn_2_78 rfl (fun q => absurd q (by decide)) (fun _ => ?_)
  refine k_aload_n dn_2_81 rfl rfl ?_
  refine k_getR (ci := 6) (k := 2) (b := 4) dn_2_82 wd_18 (Nat.le_of_ble_eq_true rfl) rfl (Or.inl rfl) rfl rfl (by simp [wr, q_3_23, q_3_7, q_3_70, q_4_13, q_4_35, q_4_38, q_4_41, q_4_44, q_4_47, q_4_76, q_5_16, q_5_79, q_9_61]) ?_
  refine k_iload_n dn_2_85 rfl rfl ?_
  refine k_bipush (v := 9) dn_2_86 (by decide) ?_
  refine k_iast (N := 16) (j := 11) dn_2_88 rfl rfl (by decide) (by decide) ?_
  refine k_iincl (w := 1) (y := 12) (lv' := [some (.ref 1), some (.int 12)]) dn_2_89 rfl (by decide) (by decide) (Nat.le_of_ble_eq_true rfl) rfl rfl ?_
  refine k_goto (tgt := 75) dn_2_92 rfl ?_
  refine k_iload_n dn_2_75 rfl rfl ?_
  refine k_bipush (v := 16) dn_2_76 (by decide) ?_
  refine k_icmp_ge (tgt := 95) dn_2_78 rfl (fun q => absurd q (by decide)) (fun _ => ?_)
  refine k_aload_n dn_2_81 rfl rfl ?_
  refine k_getR (ci := 6) (k := 2) (b := 4) dn_2_82 wd_18 (Nat.le_of_ble_eq_true rfl) rfl (Or.inl rfl) rfl rfl (by simp [wr, q_3_23, q_3_7, q_3_70, q_4_13, q_4_35, q_4_38, q_4_41, q_4_44, q_4_47, q_4_76, q_5_16, q_5_79, q_9_61]) ?_
  refine k_iload_n dn_2_85 rfl rfl ?_
  refine k_bipush (v := 9) dn_2_86 (by decide) ?_
  refine k_iast (N := 16) (j := 12) dn_2_88 rfl rfl (by decide) (by decide) ?_
  refine k_iincl (w := 1) (y := 13) (lv' := [some (.ref 1), some (.int 13)]) dn_2_89 rfl (by decide) (by decide) (Nat.le_of_ble_eq_true rfl) rfl rfl ?_
  refine k_goto (tgt := 75) dn_2_92 rfl ?_
  refine k_iload_n dn_2_75 rfl rfl ?_
  refine k_bipush (v := 16) dn_2_76 (by decide) ?_
  refine k_icmp_ge (tgt := 95) dn_2_78 rfl (fun q => absurd q (by decide)) (fun _ => ?_)
  refine k_aload_n dn_2_81 rfl rfl ?_
  refine k_getR (ci := 6) (k := 2) (b := 4) dn_2_82 wd_18 (Nat.le_of_ble_eq_true rfl) rfl (Or.inl rfl) rfl rfl (by simp [wr, q_3_23, q_3_7, q_3_70, q_4_13, q_4_35, q_4_38, q_4_41, q_4_44, q_4_47, q_4_76, q_5_16, q_5_79, q_9_61]) ?_
  refine k_iload_n dn_2_85 rfl rfl ?_
  refine k_bipush (v := 9) dn_2_86 (by decide) ?_
  refine k_iast (N := 16) (j := 13) dn_2_88 rfl rfl (by decide) (by decide) ?_
  refine k_iincl (w := 1) (y := 14) (lv' := [some (.ref 1), some (.int 14)]) dn_2_89 rfl (by decide) (by decide) (Nat.le_of_ble_eq_true rfl) rfl rfl ?_
  refine k_goto (tgt := 75) dn_2_92 rfl ?_
  refine k_iload_n dn_2_75 rfl rfl ?_
  refine k_bipush (v := 16) dn_2_76 (by decide) ?_
  refine k_icmp_ge (tgt := 95) dn_2_78 rfl (fun q => absurd q (by decide)) (fun _ => ?_)
  refine k_aload_n dn_2_81 rfl rfl ?_
  refine k_getR (ci := 6) (k := 2) (b := 4) dn_2_82 wd_18 (Nat.le_of_ble_eq_true rfl) rfl (Or.inl rfl) rfl rfl (by simp [wr, q_3_23, q_3_7, q_3_70, q_4_13, q_4_35, q_4_38, q_4_41, q_4_44, q_4_47, q_4_76, q_5_16, q_5_79, q_9_61]) ?_
  refine k_iload_n dn_2_85 rfl rfl ?_
  refine k_bipush (v := 9) dn_2_86 (by decide) ?_
  refine k_iast (N := 16) (j := 14) dn_2_88 rfl rfl (by decide) (by decide) ?_
  refine k_iincl (w := 1) (y := 15) (lv' := [some (.ref 1), some (.int 15)]) dn_2_89 rfl (by decide) (by decide) (Nat.le_of_ble_eq_true rfl) rfl rfl ?_
  refine k_goto (tgt := 75) dn_2_92 rfl ?_
  refine k_iload_n dn_2_75 rfl rfl ?_
  refine k_bipush (v := 16) dn_2_76 (by decide) ?_
  refine k_icmp_ge (tgt := 95) dn_2_78 rfl (fun q => absurd q (by decide)) (fun _ => ?_)
  refine k_aload_n dn_2_81 rfl rfl ?_
  refine k_getR (ci := 6) (k := 2) (b := 4) dn_2_82 wd_18 (Nat.le_of_ble_eq_true rfl) rfl (Or.inl rfl) rfl rfl (by simp [wr, q_3_23, q_3_7, q_3_70, q_4_13, q_4_35, q_4_38, q_4_41, q_4_44, q_4_47, q_4_76, q_5_16, q_5_79, q_9_61]) ?_
  refine k_iload_n dn_2_85 rfl rfl ?_
  refine k_bipush (v := 9) dn_2_86 (by decide) ?_
  refine k_iast (N := 16) (j := 15) dn_2_88 rfl rfl (by decide) (by decide) ?_
  refine k_iincl (w := 1) (y := 16) (lv' := [some (.ref 1), some (.int 16)]) dn_2_89 rfl (by decide) (by decide) (Nat.le_of_ble_eq_true rfl) rfl rfl ?_
  refine k_goto (tgt := 75) dn_2_92 rfl ?_
  refine k_iload_n dn_2_75 rfl rfl ?_
  refine k_bipush (v := 16) dn_2_76 (by decide) ?_
  refine k_icmp_ge (tgt := 95) dn_2_78 rfl (fun _ => ?_) (fun q => absurd (by decide) q)
  exact k_ret dn_2_95 hq
def q_2_64 (h : Hp) : Hp := (wr (wr (wr (wr (wr (wr (wr (wr (wr (wr (wr (wr (wr (wr (wr (wr (wr (wr (wr (wr (q_3_70 (wr (wr (wr (wr (wr h 64 0 1) 64 1 1) 64 2 1) 64 3 1) 64 4 1)) 64 5 1) 64 6 1) 64 7 0) 64 8 12) 67 0 9) 67 1 9) 67 2 9) 67 3 9) 67 4 9) 67 5 9) 67 6 9) 67 7 9) 67 8 9) 67 9 9) 67 10 9) 67 11 9) 67 12 9) 67 13 9) 67 14 9) 67 15 9)
set_option maxHeartbeats 4000000 in
set_option maxRecDepth 100000 in
theorem n_2_64 (h : Hp) : CN 2 2 [.ref 64] h 65 (q_2_64 h) 76 := by
  refine CN.of mo_2 rfl (Nat.le_of_ble_eq_true rfl) (by decide) (by decide) (fun X hX hq => ?_)
  show K X 2 2 0 [some (.ref 64), none] [] h 65
  refine k_aload_n dn_2_0 rfl rfl ?_
  refine k_obj dn_2_1 wd_3 wn_0 (by decide) (by decide) ?_
  refine k_aload_n dn_2_4 rfl rfl ?_
  refine k_bipush (v := 6) dn_2_5 (by decide) ?_
  refine k_newal (N := 6) (n' := 66) dn_2_7 wn_1 rfl rfl (by decide) (by rw [hX]; decide) rfl ?_
  refine k_putR (ci := 6) (k := 0) dn_2_9 wd_14 (Nat.le_of_ble_eq_true rfl) rfl rfl rfl (Or.inl rfl) rfl rfl (by decide) ?_
  refine k_aload_n dn_2_12 rfl rfl ?_
  refine k_bipush (v := 6) dn_2_13 (by decide) ?_
  refine k_newal (N := 6) (n' := 67) dn_2_15 wn_1 rfl rfl (by decide) (by rw [hX]; decide) rfl ?_
  refine k_putR (ci := 6) (k := 1) dn_2_17 wd_16 (Nat.le_of_ble_eq_true rfl) rfl rfl rfl (Or.inl rfl) rfl rfl (by decide) ?_
  refine k_aload_n dn_2_20 rfl rfl ?_
  refine k_bipush (v := 16) dn_2_21 (by decide) ?_
  refine k_newal (N := 16) (n' := 68) dn_2_23 wn_1 rfl rfl (by decide) (by rw [hX]; decide) rfl ?_
  refine k_putR (ci := 6) (k := 2) dn_2_25 wd_18 (Nat.le_of_ble_eq_true rfl) rfl rfl rfl (Or.inl rfl) rfl rfl (by decide) ?_
  refine k_aload_n dn_2_28 rfl rfl ?_
  refine k_bipush (v := 6) dn_2_29 (by decide) ?_
  refine k_newal (N := 6) (n' := 69) dn_2_31 wn_1 rfl rfl (by decide) (by rw [hX]; decide) rfl ?_
  refine k_putR (ci := 6) (k := 3) dn_2_33 wd_20 (Nat.le_of_ble_eq_true rfl) rfl rfl rfl (Or.inl rfl) rfl rfl (by decide) ?_
  refine k_aload_n dn_2_36 rfl rfl ?_
  refine k_bipush (v := 6) dn_2_37 (by decide) ?_
  refine k_newal (N := 6) (n' := 70) dn_2_39 wn_1 rfl rfl (by decide) (by rw [hX]; decide) rfl ?_
  refine k_putR (ci := 6) (k := 4) dn_2_41 wd_22 (Nat.le_of_ble_eq_true rfl) rfl rfl rfl (Or.inl rfl) rfl rfl (by decide) ?_
  refine k_aload_n dn_2_44 rfl rfl ?_
  refine k_newl (ci := 5) (n' := 71) dn_2_45 wn_2 wn_3 wn_4 rfl (by rw [hX]; decide) rfl ?_
  refine k_dup dn_2_48 rfl ?_
  refine k_callN (mj := 3) (As := []) (t := [.ref 70, .ref 64]) dn_2_49 (by decide) mo_3 mc_3 wn_4 wn_5 rfl rfl rfl (by decide) (Nat.le_of_ble_eq_true rfl) (by rw [hX]; decide) (n_3_70 _) ?_
  refine k_putR (ci := 6) (k := 5) dn_2_52 wd_24 (Nat.le_of_ble_eq_true rfl) rfl rfl rfl (Or.inl rfl) rfl rfl (by decide) ?_
  refine k_aload_n dn_2_55 rfl rfl ?_
  refine k_iconst (v := 5) dn_2_56 rfl ?_
  refine k_newal (N := 5) (n' := 76) dn_2_57 wn_1 rfl rfl (by decide) (by rw [hX]; decide) rfl ?_
  refine k_putR (ci := 6) (k := 6) dn_2_59 wd_26 (Nat.le_of_ble_eq_true rfl) rfl rfl rfl (Or.inl rfl) rfl rfl (by decide) ?_
  refine k_aload_n dn_2_62 rfl rfl ?_
  refine k_iconst (v := 0) dn_2_63 rfl ?_
  refine k_putI (ci := 6) (k := 7) dn_2_64 wd_27 (Nat.le_of_ble_eq_true rfl) rfl rfl rfl (Or.inl ⟨rfl, rfl⟩) rfl ?_
  refine k_aload_n dn_2_67 rfl rfl ?_
  refine k_bipush (v := 12) dn_2_68 (by decide) ?_
  refine k_putI (ci := 6) (k := 8) dn_2_70 wd_30 (Nat.le_of_ble_eq_true rfl) rfl rfl rfl (Or.inl ⟨rfl, rfl⟩) rfl ?_
  refine k_iconst (v := 0) dn_2_73 rfl ?_
  refine k_istl (lv' := [some (.ref 64), some (.int 0)]) dn_2_74 rfl (Nat.le_of_ble_eq_true rfl) rfl rfl ?_
  refine k_iload_n dn_2_75 rfl rfl ?_
  refine k_bipush (v := 16) dn_2_76 (by decide) ?_
  refine k_icmp_ge (tgt := 95) dn_2_78 rfl (fun q => absurd q (by decide)) (fun _ => ?_)
  refine k_aload_n dn_2_81 rfl rfl ?_
  refine k_getR (ci := 6) (k := 2) (b := 67) dn_2_82 wd_18 (Nat.le_of_ble_eq_true rfl) rfl (Or.inl rfl) rfl rfl (by simp [wr, q_2_1, q_3_23, q_3_7, q_3_70, q_4_13, q_4_35, q_4_38, q_4_41, q_4_44, q_4_47, q_4_76, q_5_16, q_5_79, q_9_61]) ?_
  refine k_iload_n dn_2_85 rfl rfl ?_
  refine k_bipush (v := 9) dn_2_86 (by decide) ?_
  refine k_iast (N := 16) (j := 0) dn_2_88 rfl rfl (by decide) (by decide) ?_
  refine k_iincl (w := 1) (y := 1) (lv' := [some (.ref 64), some (.int 1)]) dn_2_89 rfl (by decide) (by decide) (Nat.le_of_ble_eq_true rfl) rfl rfl ?_
  refine k_goto (tgt := 75) dn_2_92 rfl ?_
  refine k_iload_n dn_2_75 rfl rfl ?_
  refine k_bipush (v := 16) dn_2_76 (by decide) ?_
  refine k_icmp_ge (tgt := 95) dn_2_78 rfl (fun q => absurd q (by decide)) (fun _ => ?_)
  refine k_aload_n dn_2_81 rfl rfl ?_
  refine k_getR (ci := 6) (k := 2) (b := 67) dn_2_82 wd_18 (Nat.le_of_ble_eq_true rfl) rfl (Or.inl rfl) rfl rfl (by simp [wr, q_2_1, q_3_23, q_3_7, q_3_70, q_4_13, q_4_35, q_4_38, q_4_41, q_4_44, q_4_47, q_4_76, q_5_16, q_5_79, q_9_61]) ?_
  refine k_iload_n dn_2_85 rfl rfl ?_
  refine k_bipush (v := 9) dn_2_86 (by decide) ?_
  refine k_iast (N := 16) (j := 1) dn_2_88 rfl rfl (by decide) (by decide) ?_
  refine k_iincl (w := 1) (y := 2) (lv' := [some (.ref 64), some (.int 2)]) dn_2_89 rfl (by decide) (by decide) (Nat.le_of_ble_eq_true rfl) rfl rfl ?_
  refine k_goto (tgt := 75) dn_2_92 rfl ?_
  refine k_iload_n dn_2_75 rfl rfl ?_
  refine k_bipush (v := 16) dn_2_76 (by decide) ?_
  refine k_icmp_ge (tgt := 95) dn_2_78 rfl (fun q => absurd q (by decide)) (fun _ => ?_)
  refine k_aload_n dn_2_81 rfl rfl ?_
  refine k_getR (ci := 6) (k := 2) (b := 67) dn_2_82 wd_18 (Nat.le_of_ble_eq_true rfl) rfl (Or.inl rfl) rfl rfl (by simp [wr, q_2_1, q_3_23, q_3_7, q_3_70, q_4_13, q_4_35, q_4_38, q_4_41, q_4_44, q_4_47, q_4_76, q_5_16, q_5_79, q_9_61]) ?_
  refine k_iload_n dn_2_85 rfl rfl ?_
  refine k_bipush (v := 9) dn_2_86 (by decide) ?_
  refine k_iast (N := 16) (j := 2) dn_2_88 rfl rfl (by decide) (by decide) ?_
  refine k_iincl (w := 1) (y := 3) (lv' := [some (.ref 64), some (.int 3)]) dn_2_89 rfl (by decide) (by decide) (Nat.le_of_ble_eq_true rfl) rfl rfl ?_
  refine k_goto (tgt := 75) dn_2_92 rfl ?_
  refine k_iload_n dn_2_75 rfl rfl ?_
  refine k_bipush (v := 16) dn_2_76 (by decide) ?_
  refine k_icmp_ge (tgt := 95) dn_2_78 rfl (fun q => absurd q (by decide)) (fun _ => ?_)
  refine k_aload_n dn_2_81 rfl rfl ?_
  refine k_getR (ci := 6) (k := 2) (b := 67) dn_2_82 wd_18 (Nat.le_of_ble_eq_true rfl) rfl (Or.inl rfl) rfl rfl (by simp [wr, q_2_1, q_3_23, q_3_7, q_3_70, q_4_13, q_4_35, q_4_38, q_4_41, q_4_44, q_4_47, q_4_76, q_5_16, q_5_79, q_9_61]) ?_
  refine k_iload_n dn_2_85 rfl rfl ?_
  refine k_bipush (v := 9) dn_2_86 (by decide) ?_
  refine k_iast (N := 16) (j := 3) dn_2_88 rfl rfl (by decide) (by decide) ?_
  refine k_iincl (w := 1) (y := 4) (lv' := [some (.ref 64), some (.int 4)]) dn_2_89 rfl (by decide) (by decide) (Nat.le_of_ble_eq_true rfl) rfl rfl ?_
  refine k_goto (tgt := 75) dn_2_92 rfl ?_
  refine k_iload_n dn_2_75 rfl rfl ?_
  refine k_bipush (v := 16) dn_2_76 (by decide) ?_
  refine k_icmp_ge (tgt := 95) dn_2_78 rfl (fun q => absurd q (by decide)) (fun _ => ?_)
  refine k_aload_n dn_2_81 rfl rfl ?_
  refine k_getR (ci := 6) (k := 2) (b := 67) dn_2_82 wd_18 (Nat.le_of_ble_eq_true rfl) rfl (Or.inl rfl) rfl rfl (by simp [wr, q_2_1, q_3_23, q_3_7, q_3_70, q_4_13, q_4_35, q_4_38, q_4_41, q_4_44, q_4_47, q_4_76, q_5_16, q_5_79, q_9_61]) ?_
  refine k_iload_n dn_2_85 rfl rfl ?_
  refine k_bipush (v := 9) dn_2_86 (by decide) ?_
  refine k_iast (N := 16) (j := 4) dn_2_88 rfl rfl (by decide) (by decide) ?_
  refine k_iincl (w := 1) (y := 5) (lv' := [some (.ref 64), some (.int 5)]) dn_2_89 rfl (by decide) (by decide) (Nat.le_of_ble_eq_true rfl) rfl rfl ?_
  refine k_goto (tgt := 75) dn_2_92 rfl ?_
  refine k_iload_n dn_2_75 rfl rfl ?_
  refine k_bipush (v := 16) dn_2_76 (by decide) ?_
  refine k_icmp_ge (tgt := 95) dn_2_78 rfl (fun q => absurd q (by decide)) (fun _ => ?_)
  refine k_aload_n dn_2_81 rfl rfl ?_
  refine k_getR (ci := 6) (k := 2) (b := 67) dn_2_82 wd_18 (Nat.le_of_ble_eq_true rfl) rfl (Or.inl rfl) rfl rfl (by simp [wr, q_2_1, q_3_23, q_3_7, q_3_70, q_4_13, q_4_35, q_4_38, q_4_41, q_4_44, q_4_47, q_4_76, q_5_16, q_5_79, q_9_61]) ?_
  refine k_iload_n dn_2_85 rfl rfl ?_
  refine k_bipush (v := 9) dn_2_86 (by decide) ?_
  refine k_iast (N := 16) (j := 5) dn_2_88 rfl rfl (by decide) (by decide) ?_
  refine k_iincl (w := 1) (y := 6) (lv' := [some (.ref 64), some (.int 6)]) dn_2_89 rfl (by decide) (by decide) (Nat.le_of_ble_eq_true rfl) rfl rfl ?_
  refine k_goto (tgt := 75) dn_2_92 rfl ?_
  refine k_iload_n dn_2_75 rfl rfl ?_
  refine k_bipush (v := 16) dn_2_76 (by decide) ?_
  refine k_icmp_ge (tgt := 95) dn_2_78 rfl (fun q => absurd q (by decide)) (fun _ => ?_)
  refine k_aload_n dn_2_81 rfl rfl ?_
  refine k_getR (ci := 6) (k := 2) (b := 67) dn_2_82 wd_18 (Nat.le_of_ble_eq_true rfl) rfl (Or.inl rfl) rfl rfl (by simp [wr, q_2_1, q_3_23, q_3_7, q_3_70, q_4_13, q_4_35, q_4_38, q_4_41, q_4_44, q_4_47, q_4_76, q_5_16, q_5_79, q_9_61]) ?_
  refine k_iload_n dn_2_85 rfl rfl ?_
  refine k_bipush (v := 9) dn_2_86 (by decide) ?_
  refine k_iast (N := 16) (j := 6) dn_2_88 rfl rfl (by decide) (by decide) ?_
  refine k_iincl (w := 1) (y := 7) (lv' := [some (.ref 64), some (.int 7)]) dn_2_89 rfl (by decide) (by decide) (Nat.le_of_ble_eq_true rfl) rfl rfl ?_
  refine k_goto (tgt := 75) dn_2_92 rfl ?_
  refine k_iload_n dn_2_75 rfl rfl ?_
  refine k_bipush (v := 16) dn_2_76 (by decide) ?_
  refine k_icmp_ge (tgt := 95) dn_2_78 rfl (fun q => absurd q (by decide)) (fun _ => ?_)
  refine k_aload_n dn_2_81 rfl rfl ?_
  refine k_getR (ci := 6) (k := 2) (b := 67) dn_2_82 wd_18 (Nat.le_of_ble_eq_true rfl) rfl (Or.inl rfl) rfl rfl (by simp [wr, q_2_1, q_3_23, q_3_7, q_3_70, q_4_13, q_4_35, q_4_38, q_4_41, q_4_44, q_4_47, q_4_76, q_5_16, q_5_79, q_9_61]) ?_
  refine k_iload_n dn_2_85 rfl rfl ?_
  refine k_bipush (v := 9) dn_2_86 (by decide) ?_
  refine k_iast (N := 16) (j := 7) dn_2_88 rfl rfl (by decide) (by decide) ?_
  refine k_iincl (w := 1) (y := 8) (lv' := [some (.ref 64), some (.int 8)]) dn_2_89 rfl (by decide) (by decide) (Nat.le_of_ble_eq_true rfl) rfl rfl ?_
  refine k_goto (tgt := 75) dn_2_92 rfl ?_
  refine k_iload_n dn_2_75 rfl rfl ?_
  refine k_bipush (v := 16) dn_2_76 (by decide) ?_
  refine k_icmp_ge (tgt := 95) dn_2_78 rfl (fun q => absurd q (by decide)) (fun _ => ?_)
  refine k_aload_n dn_2_81 rfl rfl ?_
  refine k_getR (ci := 6) (k := 2) (b := 67) dn_2_82 wd_18 (Nat.le_of_ble_eq_true rfl) rfl (Or.inl rfl) rfl rfl (by simp [wr, q_2_1, q_3_23, q_3_7, q_3_70, q_4_13, q_4_35, q_4_38, q_4_41, q_4_44, q_4_47, q_4_76, q_5_16, q_5_79, q_9_61]) ?_
  refine k_iload_n dn_2_85 rfl rfl ?_
  refine k_bipush (v := 9) dn_2_86 (by decide) ?_
  refine k_iast (N := 16) (j := 8) dn_2_88 rfl rfl (by decide) (by decide) ?_
  refine k_iincl (w := 1) (y := 9) (lv' := [some (.ref 64), some (.int 9)]) dn_2_89 rfl (by decide) (by decide) (Nat.le_of_ble_eq_true rfl) rfl rfl ?_
  refine k_goto (tgt := 75) dn_2_92 rfl ?_
  refine k_iload_n dn_2_75 rfl rfl ?_
  refine k_bipush (v := 16) dn_2_76 (by decide) ?_
  refine k_icmp_ge (tgt := 95) dn_2_78 rfl (fun q => absurd q (by decide)) (fun _ => ?_)
  refine k_aload_n dn_2_81 rfl rfl ?_
  refine k_getR (ci := 6) (k := 2) (b := 67) dn_2_82 wd_18 (Nat.le_of_ble_eq_true rfl) rfl (Or.inl rfl) rfl rfl (by simp [wr, q_2_1, q_3_23, q_3_7, q_3_70, q_4_13, q_4_35, q_4_38, q_4_41, q_4_44, q_4_47, q_4_76, q_5_16, q_5_79, q_9_61]) ?_
  refine k_iload_n dn_2_85 rfl rfl ?_
  refine k_bipush (v := 9) dn_2_86 (by decide) ?_
  refine k_iast (N := 16) (j := 9) dn_2_88 rfl rfl (by decide) (by decide) ?_
  refine k_iincl (w := 1) (y := 10) (lv' := [some (.ref 64), some (.int 10)]) dn_2_89 rfl (by decide) (by decide) (Nat.le_of_ble_eq_true rfl) rfl rfl ?_
  refine k_goto (tgt := 75) dn_2_92 rfl ?_
  refine k_iload_n dn_2_75 rfl rfl ?_
  refine k_bipush (v := 16) dn_2_76 (by decide) ?_
  refine k_icmp_ge (tgt := 95) dn_2_78 rfl (fun q => absurd q (by decide)) (fun _ => ?_)
  refine k_aload_n dn_2_81 rfl rfl ?_
  refine k_getR (ci := 6) (k := 2) (b := 67) dn_2_82 wd_18 (Nat.le_of_ble_eq_true rfl) rfl (Or.inl rfl) rfl rfl (by simp [wr, q_2_1, q_3_23, q_3_7, q_3_70, q_4_13, q_4_35, q_4_38, q_4_41, q_4_44, q_4_47, q_4_76, q_5_16, q_5_79, q_9_61]) ?_
  refine k_iload_n dn_2_85 rfl rfl ?_
  refine k_bipush (v := 9) dn_2_86 (by decide) ?_
  refine k_iast (N := 16) (j := 10) dn_2_88 rfl rfl (by decide) (by decide) ?_
  refine k_iincl (w := 1) (y := 11) (lv' := [some (.ref 64), some (.int 11)]) dn_2_89 rfl (by decide) (by decide) (Nat.le_of_ble_eq_true rfl) rfl rfl ?_
  refine k_goto (tgt := 75) dn_2_92 rfl ?_
  refine k_iload_n dn_2_75 rfl rfl ?_
  refine k_bipush (v := 16) dn_2_76 (by decide) ?_
  refine k_icmp_ge (tgt := 95) dn_2_78 rfl (fun q => absurd q (by decide)) (fun _ => ?_)
  refine k_aload_n dn_2_81 rfl rfl ?_
  refine k_getR (ci := 6) (k := 2) (b := 67) dn_2_82 wd_18 (Nat.le_of_ble_eq_true rfl) rfl (Or.inl rfl) rfl rfl (by simp [wr, q_2_1, q_3_23, q_3_7, q_3_70, q_4_13, q_4_35, q_4_38, q_4_41, q_4_44, q_4_47, q_4_76, q_5_16, q_5_79, q_9_61]) ?_
  refine k_iload_n dn_2_85 rfl rfl ?_
  refine k_bipush (v := 9) dn_2_86 (by decide) ?_
  refine k_iast (N := 16) (j := 11) dn_2_88 rfl rfl (by decide) (by decide) ?_
  refine k_iincl (w := 1) (y := 12) (lv' := [some (.ref 64), some (.int 12)]) dn_2_89 rfl (by decide) (by decide) (Nat.le_of_ble_eq_true rfl) rfl rfl ?_
  refine k_goto (tgt := 75) dn_2_92 rfl ?_
  refine k_iload_n dn_2_75 rfl rfl ?_
  refine k_bipush (v := 16) dn_2_76 (by decide) ?_
  refine k_icmp_ge (tgt := 95) dn_2_78 rfl (fun q => absurd q (by decide)) (fun _ => ?_)
  refine k_aload_n dn_2_81 rfl rfl ?_
  refine k_getR (ci := 6) (k := 2) (b := 67) dn_2_82 wd_18 (Nat.le_of_ble_eq_true rfl) rfl (Or.inl rfl) rfl rfl (by simp [wr, q_2_1, q_3_23, q_3_7, q_3_70, q_4_13, q_4_35, q_4_38, q_4_41, q_4_44, q_4_47, q_4_76, q_5_16, q_5_79, q_9_61]) ?_
  refine k_iload_n dn_2_85 rfl rfl ?_
  refine k_bipush (v := 9) dn_2_86 (by decide) ?_
  refine k_iast (N := 16) (j := 12) dn_2_88 rfl rfl (by decide) (by decide) ?_
  refine k_iincl (w := 1) (y := 13) (lv' := [some (.ref 64), some (.int 13)]) dn_2_89 rfl (by decide) (by decide) (Nat.le_of_ble_eq_true rfl) rfl rfl ?_
  refine k_goto (tgt := 75) dn_2_92 rfl ?_
  refine k_iload_n dn_2_75 rfl rfl ?_
  refine k_bipush (v := 16) dn_2_76 (by decide) ?_
  refine k_icmp_ge (tgt := 95) dn_2_78 rfl (fun q => absurd q (by decide)) (fun _ => ?_)
  refine k_aload_n dn_2_81 rfl rfl ?_
  refine k_getR (ci := 6) (k := 2) (b := 67) dn_2_82 wd_18 (Nat.le_of_ble_eq_true rfl) rfl (Or.inl rfl) rfl rfl (by simp [wr, q_2_1, q_3_23, q_3_7, q_3_70, q_4_13, q_4_35, q_4_38, q_4_41, q_4_44, q_4_47, q_4_76, q_5_16, q_5_79, q_9_61]) ?_
  refine k_iload_n dn_2_85 rfl rfl ?_
  refine k_bipush (v := 9) dn_2_86 (by decide) ?_
  refine k_iast (N := 16) (j := 13) dn_2_88 rfl rfl (by decide) (by decide) ?_
  refine k_iincl (w := 1) (y := 14) (lv' := [some (.ref 64), some (.int 14)]) dn_2_89 rfl (by decide) (by decide) (Nat.le_of_ble_eq_true rfl) rfl rfl ?_
  refine k_goto (tgt := 75) dn_2_92 rfl ?_
  refine k_iload_n dn_2_75 rfl rfl ?_
  refine k_bipush (v := 16) dn_2_76 (by decide) ?_
  refine k_icmp_ge (tgt := 95) dn_2_78 rfl (fun q => absurd q (by decide)) (fun _ => ?_)
  refine k_aload_n dn_2_81 rfl rfl ?_
  refine k_getR (ci := 6) (k := 2) (b := 67) dn_2_82 wd_18 (Nat.le_of_ble_eq_true rfl) rfl (Or.inl rfl) rfl rfl (by simp [wr, q_2_1, q_3_23, q_3_7, q_3_70, q_4_13, q_4_35, q_4_38, q_4_41, q_4_44, q_4_47, q_4_76, q_5_16, q_5_79, q_9_61]) ?_
  refine k_iload_n dn_2_85 rfl rfl ?_
  refine k_bipush (v := 9) dn_2_86 (by decide) ?_
  refine k_iast (N := 16) (j := 14) dn_2_88 rfl rfl (by decide) (by decide) ?_
  refine k_iincl (w := 1) (y := 15) (lv' := [some (.ref 64), some (.int 15)]) dn_2_89 rfl (by decide) (by decide) (Nat.le_of_ble_eq_true rfl) rfl rfl ?_
  refine k_goto (tgt := 75) dn_2_92 rfl ?_
  refine k_iload_n dn_2_75 rfl rfl ?_
  refine k_bipush (v := 16) dn_2_76 (by decide) ?_
  refine k_icmp_ge (tgt := 95) dn_2_78 rfl (fun q => absurd q (by decide)) (fun _ => ?_)
  refine k_aload_n dn_2_81 rfl rfl ?_
  refine k_getR (ci := 6) (k := 2) (b := 67) dn_2_82 wd_18 (Nat.le_of_ble_eq_true rfl) rfl (Or.inl rfl) rfl rfl (by simp [wr, q_2_1, q_3_23, q_3_7, q_3_70, q_4_13, q_4_35, q_4_38, q_4_41, q_4_44, q_4_47, q_4_76, q_5_16, q_5_79, q_9_61]) ?_
  refine k_iload_n dn_2_85 rfl rfl ?_
  refine k_bipush (v := 9) dn_2_86 (by decide) ?_
  refine k_iast (N := 16) (j := 15) dn_2_88 rfl rfl (by decide) (by decide) ?_
  refine k_iincl (w := 1) (y := 16) (lv' := [some (.ref 64), some (.int 16)]) dn_2_89 rfl (by decide) (by decide) (Nat.le_of_ble_eq_true rfl) rfl rfl ?_
  refine k_goto (tgt := 75) dn_2_92 rfl ?_
  refine k_iload_n dn_2_75 rfl rfl ?_
  refine k_bipush (v := 16) dn_2_76 (by decide) ?_
  refine k_icmp_ge (tgt := 95) dn_2_78 rfl (fun _ => ?_) (fun q => absurd (by decide) q)
  exact k_ret dn_2_95 hq
theorem dn_6_0 : decode (mth 6).2.1 0 = .ok (.aload_n 0, 1) := by decide +kernel
theorem dn_6_1 : decode (mth 6).2.1 1 = .ok (.invokespecial 1, 3) := by decide +kernel
theorem dn_6_4 : decode (mth 6).2.1 4 = .ok (.aload_n 0, 1) := by decide +kernel
theorem dn_6_5 : decode (mth 6).2.1 5 = .ok (.sipush (200), 3) := by decide +kernel
theorem dn_6_8 : decode (mth 6).2.1 8 = .ok (.newarray .int, 2) := by decide +kernel
theorem dn_6_10 : decode (mth 6).2.1 10 = .ok (.putfield 9, 3) := by decide +kernel
theorem dn_6_13 : decode (mth 6).2.1 13 = .ok (.aload_n 0, 1) := by decide +kernel
theorem dn_6_14 : decode (mth 6).2.1 14 = .ok (.iconst (0), 1) := by decide +kernel
theorem dn_6_15 : decode (mth 6).2.1 15 = .ok (.putfield 13, 3) := by decide +kernel
theorem dn_6_18 : decode (mth 6).2.1 18 = .ok (.aload_n 0, 1) := by decide +kernel
theorem dn_6_19 : decode (mth 6).2.1 19 = .ok (.new 17, 3) := by decide +kernel
set_option maxRecDepth 100000 in
theorem wn_6 : Jvm.Cond.classLink "PlayedTruth$RuleReader" 17 "PlayedTruth$Rules" ∈ tbl := in_t1 (List.mem_of_getElem? (i := 190) rfl) rfl
theorem dn_6_22 : decode (mth 6).2.1 22 = .ok (.dup, 1) := by decide +kernel
theorem dn_6_23 : decode (mth 6).2.1 23 = .ok (.invokespecial 19, 3) := by decide +kernel
theorem dn_6_26 : decode (mth 6).2.1 26 = .ok (.putfield 20, 3) := by decide +kernel
theorem dn_6_29 : decode (mth 6).2.1 29 = .ok (.aload_n 0, 1) := by decide +kernel
theorem dn_6_30 : decode (mth 6).2.1 30 = .ok (.iconst (0), 1) := by decide +kernel
theorem dn_6_31 : decode (mth 6).2.1 31 = .ok (.putfield 24, 3) := by decide +kernel
theorem dn_6_34 : decode (mth 6).2.1 34 = .ok (.aload_n 0, 1) := by decide +kernel
theorem dn_6_35 : decode (mth 6).2.1 35 = .ok (.sipush (201), 3) := by decide +kernel
theorem dn_6_38 : decode (mth 6).2.1 38 = .ok (.newarray .int, 2) := by decide +kernel
theorem dn_6_40 : decode (mth 6).2.1 40 = .ok (.putfield 27, 3) := by decide +kernel
theorem dn_6_43 : decode (mth 6).2.1 43 = .ok (.aload_n 0, 1) := by decide +kernel
theorem dn_6_44 : decode (mth 6).2.1 44 = .ok (.sipush (201), 3) := by decide +kernel
theorem dn_6_47 : decode (mth 6).2.1 47 = .ok (.newarray .int, 2) := by decide +kernel
theorem dn_6_49 : decode (mth 6).2.1 49 = .ok (.putfield 30, 3) := by decide +kernel
theorem dn_6_52 : decode (mth 6).2.1 52 = .ok (.aload_n 0, 1) := by decide +kernel
theorem dn_6_53 : decode (mth 6).2.1 53 = .ok (.sipush (201), 3) := by decide +kernel
theorem dn_6_56 : decode (mth 6).2.1 56 = .ok (.newarray .int, 2) := by decide +kernel
theorem dn_6_58 : decode (mth 6).2.1 58 = .ok (.putfield 33, 3) := by decide +kernel
theorem dn_6_61 : decode (mth 6).2.1 61 = .ok (.aload_n 0, 1) := by decide +kernel
theorem dn_6_62 : decode (mth 6).2.1 62 = .ok (.iconst (0), 1) := by decide +kernel
theorem dn_6_63 : decode (mth 6).2.1 63 = .ok (.putfield 36, 3) := by decide +kernel
theorem dn_6_66 : decode (mth 6).2.1 66 = .ok (.aload_n 0, 1) := by decide +kernel
theorem dn_6_67 : decode (mth 6).2.1 67 = .ok (.bipush (27), 2) := by decide +kernel
theorem dn_6_69 : decode (mth 6).2.1 69 = .ok (.putfield 39, 3) := by decide +kernel
theorem dn_6_72 : decode (mth 6).2.1 72 = .ok (.return_, 1) := by decide +kernel
def q_6_21 (h : Hp) : Hp := (wr (wr (wr (wr (wr (wr (wr (q_3_23 (wr (wr h 21 0 1) 21 1 0)) 21 2 1) 21 3 0) 21 4 1) 21 5 1) 21 6 1) 21 7 0) 21 8 27)
set_option maxHeartbeats 4000000 in
set_option maxRecDepth 100000 in
theorem n_6_21 (h : Hp) : CN 2 6 [.ref 21] h 22 (q_6_21 h) 31 := by
  refine CN.of mo_6 rfl (Nat.le_of_ble_eq_true rfl) (by decide) (by decide) (fun X hX hq => ?_)
  show K X 2 6 0 [some (.ref 21)] [] h 22
  refine k_aload_n dn_6_0 rfl rfl ?_
  refine k_obj dn_6_1 wd_73 wn_0 (by decide) (by decide) ?_
  refine k_aload_n dn_6_4 rfl rfl ?_
  refine k_sipush (v := 200) dn_6_5 (by decide) ?_
  refine k_newal (N := 200) (n' := 23) dn_6_8 wn_1 rfl rfl (by decide) (by rw [hX]; decide) rfl ?_
  refine k_putR (ci := 4) (k := 0) dn_6_10 wd_74 (Nat.le_of_ble_eq_true rfl) rfl rfl rfl (Or.inr rfl) rfl rfl (by decide) ?_
  refine k_aload_n dn_6_13 rfl rfl ?_
  refine k_iconst (v := 0) dn_6_14 rfl ?_
  refine k_putI (ci := 4) (k := 1) dn_6_15 wd_75 (Nat.le_of_ble_eq_true rfl) rfl rfl rfl (Or.inl ⟨rfl, rfl⟩) rfl ?_
  refine k_aload_n dn_6_18 rfl rfl ?_
  refine k_newl (ci := 5) (n' := 24) dn_6_19 wn_6 wn_3 wn_4 rfl (by rw [hX]; decide) rfl ?_
  refine k_dup dn_6_22 rfl ?_
  refine k_callN (mj := 3) (As := []) (t := [.ref 23, .ref 21]) dn_6_23 (by decide) mo_3 mc_3 wn_4 wn_5 rfl rfl rfl (by decide) (Nat.le_of_ble_eq_true rfl) (by rw [hX]; decide) (n_3_23 _) ?_
  refine k_putR (ci := 4) (k := 2) dn_6_26 wd_77 (Nat.le_of_ble_eq_true rfl) rfl rfl rfl (Or.inr rfl) rfl rfl (by decide) ?_
  refine k_aload_n dn_6_29 rfl rfl ?_
  refine k_iconst (v := 0) dn_6_30 rfl ?_
  refine k_putI (ci := 4) (k := 3) dn_6_31 wd_79 (Nat.le_of_ble_eq_true rfl) rfl rfl rfl (Or.inl ⟨rfl, rfl⟩) rfl ?_
  refine k_aload_n dn_6_34 rfl rfl ?_
  refine k_sipush (v := 201) dn_6_35 (by decide) ?_
  refine k_newal (N := 201) (n' := 29) dn_6_38 wn_1 rfl rfl (by decide) (by rw [hX]; decide) rfl ?_
  refine k_putR (ci := 4) (k := 4) dn_6_40 wd_81 (Nat.le_of_ble_eq_true rfl) rfl rfl rfl (Or.inr rfl) rfl rfl (by decide) ?_
  refine k_aload_n dn_6_43 rfl rfl ?_
  refine k_sipush (v := 201) dn_6_44 (by decide) ?_
  refine k_newal (N := 201) (n' := 30) dn_6_47 wn_1 rfl rfl (by decide) (by rw [hX]; decide) rfl ?_
  refine k_putR (ci := 4) (k := 5) dn_6_49 wd_82 (Nat.le_of_ble_eq_true rfl) rfl rfl rfl (Or.inr rfl) rfl rfl (by decide) ?_
  refine k_aload_n dn_6_52 rfl rfl ?_
  refine k_sipush (v := 201) dn_6_53 (by decide) ?_
  refine k_newal (N := 201) (n' := 31) dn_6_56 wn_1 rfl rfl (by decide) (by rw [hX]; decide) rfl ?_
  refine k_putR (ci := 4) (k := 6) dn_6_58 wd_83 (Nat.le_of_ble_eq_true rfl) rfl rfl rfl (Or.inr rfl) rfl rfl (by decide) ?_
  refine k_aload_n dn_6_61 rfl rfl ?_
  refine k_iconst (v := 0) dn_6_62 rfl ?_
  refine k_putI (ci := 4) (k := 7) dn_6_63 wd_84 (Nat.le_of_ble_eq_true rfl) rfl rfl rfl (Or.inl ⟨rfl, rfl⟩) rfl ?_
  refine k_aload_n dn_6_66 rfl rfl ?_
  refine k_bipush (v := 27) dn_6_67 (by decide) ?_
  refine k_putI (ci := 4) (k := 8) dn_6_69 wd_85 (Nat.le_of_ble_eq_true rfl) rfl rfl rfl (Or.inl ⟨rfl, rfl⟩) rfl ?_
  exact k_ret dn_6_72 hq
