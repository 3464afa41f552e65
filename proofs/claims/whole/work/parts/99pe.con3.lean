/-! part 99pe: constructors: ahead, host (written by wip/whole/gencon.py) -/
theorem dn_7_0 : decode (mth 7).2.1 0 = .ok (.aload_n 0, 1) := by decide +kernel
theorem dn_7_1 : decode (mth 7).2.1 1 = .ok (.invokespecial 3, 3) := by decide +kernel
theorem dn_7_4 : decode (mth 7).2.1 4 = .ok (.aload_n 0, 1) := by decide +kernel
theorem dn_7_5 : decode (mth 7).2.1 5 = .ok (.iconst (5), 1) := by decide +kernel
theorem dn_7_6 : decode (mth 7).2.1 6 = .ok (.anewarray 9, 3) := by decide +kernel
set_option maxRecDepth 100000 in
theorem wn_7 : Jvm.Cond.classLink "PlayedTruth$Ahead" 9 "PlayedTruth$Moment" ∈ tbl := in_t1 (List.mem_of_getElem? (i := 229) rfl) rfl
theorem dn_7_9 : decode (mth 7).2.1 9 = .ok (.putfield 11, 3) := by decide +kernel
theorem dn_7_12 : decode (mth 7).2.1 12 = .ok (.aload_n 0, 1) := by decide +kernel
theorem dn_7_13 : decode (mth 7).2.1 13 = .ok (.iconst (4), 1) := by decide +kernel
theorem dn_7_14 : decode (mth 7).2.1 14 = .ok (.newarray .int, 2) := by decide +kernel
theorem dn_7_16 : decode (mth 7).2.1 16 = .ok (.putfield 17, 3) := by decide +kernel
theorem dn_7_19 : decode (mth 7).2.1 19 = .ok (.aload_n 0, 1) := by decide +kernel
theorem dn_7_20 : decode (mth 7).2.1 20 = .ok (.iconst (0), 1) := by decide +kernel
theorem dn_7_21 : decode (mth 7).2.1 21 = .ok (.putfield 21, 3) := by decide +kernel
theorem dn_7_24 : decode (mth 7).2.1 24 = .ok (.aload_n 0, 1) := by decide +kernel
theorem dn_7_25 : decode (mth 7).2.1 25 = .ok (.iconst (0), 1) := by decide +kernel
theorem dn_7_26 : decode (mth 7).2.1 26 = .ok (.putfield 25, 3) := by decide +kernel
theorem dn_7_29 : decode (mth 7).2.1 29 = .ok (.aload_n 0, 1) := by decide +kernel
theorem dn_7_30 : decode (mth 7).2.1 30 = .ok (.iconst (0), 1) := by decide +kernel
theorem dn_7_31 : decode (mth 7).2.1 31 = .ok (.putfield 28, 3) := by decide +kernel
theorem dn_7_34 : decode (mth 7).2.1 34 = .ok (.aload_n 0, 1) := by decide +kernel
theorem dn_7_35 : decode (mth 7).2.1 35 = .ok (.iconst (0), 1) := by decide +kernel
theorem dn_7_36 : decode (mth 7).2.1 36 = .ok (.putfield 31, 3) := by decide +kernel
theorem dn_7_39 : decode (mth 7).2.1 39 = .ok (.aload_n 0, 1) := by decide +kernel
theorem dn_7_40 : decode (mth 7).2.1 40 = .ok (.iconst (4), 1) := by decide +kernel
theorem dn_7_41 : decode (mth 7).2.1 41 = .ok (.newarray .int, 2) := by decide +kernel
theorem dn_7_43 : decode (mth 7).2.1 43 = .ok (.putfield 34, 3) := by decide +kernel
theorem dn_7_46 : decode (mth 7).2.1 46 = .ok (.aload_n 0, 1) := by decide +kernel
theorem dn_7_47 : decode (mth 7).2.1 47 = .ok (.bipush (-3), 2) := by decide +kernel
theorem dn_7_49 : decode (mth 7).2.1 49 = .ok (.putfield 37, 3) := by decide +kernel
theorem dn_7_52 : decode (mth 7).2.1 52 = .ok (.aload_n 0, 1) := by decide +kernel
theorem dn_7_53 : decode (mth 7).2.1 53 = .ok (.iconst (0), 1) := by decide +kernel
theorem dn_7_54 : decode (mth 7).2.1 54 = .ok (.putfield 40, 3) := by decide +kernel
theorem dn_7_57 : decode (mth 7).2.1 57 = .ok (.aload_n 0, 1) := by decide +kernel
theorem dn_7_58 : decode (mth 7).2.1 58 = .ok (.iconst (0), 1) := by decide +kernel
theorem dn_7_59 : decode (mth 7).2.1 59 = .ok (.putfield 43, 3) := by decide +kernel
theorem dn_7_62 : decode (mth 7).2.1 62 = .ok (.aload_n 0, 1) := by decide +kernel
theorem dn_7_63 : decode (mth 7).2.1 63 = .ok (.aload_n 1, 1) := by decide +kernel
theorem dn_7_64 : decode (mth 7).2.1 64 = .ok (.putfield 46, 3) := by decide +kernel
theorem dn_7_67 : decode (mth 7).2.1 67 = .ok (.aload_n 0, 1) := by decide +kernel
theorem dn_7_68 : decode (mth 7).2.1 68 = .ok (.aload_n 2, 1) := by decide +kernel
theorem dn_7_69 : decode (mth 7).2.1 69 = .ok (.putfield 50, 3) := by decide +kernel
theorem dn_7_72 : decode (mth 7).2.1 72 = .ok (.iconst (0), 1) := by decide +kernel
theorem dn_7_73 : decode (mth 7).2.1 73 = .ok (.istore_n 3, 1) := by decide +kernel
theorem dn_7_74 : decode (mth 7).2.1 74 = .ok (.iload_n 3, 1) := by decide +kernel
theorem dn_7_75 : decode (mth 7).2.1 75 = .ok (.aload_n 0, 1) := by decide +kernel
theorem dn_7_76 : decode (mth 7).2.1 76 = .ok (.getfield 11, 3) := by decide +kernel
theorem dn_7_79 : decode (mth 7).2.1 79 = .ok (.arraylength, 1) := by decide +kernel
theorem dn_7_80 : decode (mth 7).2.1 80 = .ok (.if_icmp .ge 22, 3) := by decide +kernel
theorem dn_7_83 : decode (mth 7).2.1 83 = .ok (.aload_n 0, 1) := by decide +kernel
theorem dn_7_84 : decode (mth 7).2.1 84 = .ok (.getfield 11, 3) := by decide +kernel
theorem dn_7_87 : decode (mth 7).2.1 87 = .ok (.iload_n 3, 1) := by decide +kernel
theorem dn_7_88 : decode (mth 7).2.1 88 = .ok (.new 9, 3) := by decide +kernel
set_option maxRecDepth 100000 in
theorem wn_8 : Jvm.Cond.instantiable "PlayedTruth$Moment" 6 ∈ tbl := in_t1 (List.mem_of_getElem? (i := 101) rfl) rfl
set_option maxRecDepth 100000 in
theorem wn_9 : Jvm.Cond.initialized "PlayedTruth$Moment" ∈ tbl := in_t1 (List.mem_of_getElem? (i := 4) rfl) rfl
theorem dn_7_91 : decode (mth 7).2.1 91 = .ok (.dup, 1) := by decide +kernel
theorem dn_7_92 : decode (mth 7).2.1 92 = .ok (.invokespecial 54, 3) := by decide +kernel
set_option maxRecDepth 100000 in
theorem wn_10 : Jvm.Cond.instanceMethod ⟨"PlayedTruth$Moment", "<init>", "()V"⟩ ∈ tbl := in_t1 (List.mem_of_getElem? (i := 103) rfl) rfl
theorem dn_7_95 : decode (mth 7).2.1 95 = .ok (.aastore, 1) := by decide +kernel
theorem dn_7_96 : decode (mth 7).2.1 96 = .ok (.iinc 3 1, 3) := by decide +kernel
theorem dn_7_99 : decode (mth 7).2.1 99 = .ok (.goto (-25), 3) := by decide +kernel
theorem dn_7_102 : decode (mth 7).2.1 102 = .ok (.return_, 1) := by decide +kernel
def q_7_31 (h : Hp) : Hp := (wr (q_4_47 (wr (q_4_44 (wr (q_4_41 (wr (q_4_38 (wr (q_4_35 (wr (wr (wr (wr (wr (wr (wr (wr (wr (wr (wr (wr h 31 2 1) 31 3 1) 31 4 0) 31 5 0) 31 6 0) 31 7 0) 31 8 1) 31 9 (-3)) 31 10 0) 31 11 0) 31 0 1) 31 1 1)) 32 0 1)) 32 1 1)) 32 2 1)) 32 3 1)) 32 4 1)
set_option maxHeartbeats 4000000 in
set_option maxRecDepth 100000 in
theorem n_7_31 (h : Hp) : CN 2 7 [.ref 31, .ref 1, .ref 13] h 32 (q_7_31 h) 50 := by
  refine CN.of mo_7 rfl (Nat.le_of_ble_eq_true rfl) (by decide) (by decide) (fun X hX hq => ?_)
  show K X 2 7 0 [some (.ref 31), some (.ref 1), some (.ref 13), none] [] h 32
  refine k_aload_n dn_7_0 rfl rfl ?_
  refine k_obj dn_7_1 wd_87 wn_0 (by decide) (by decide) ?_
  refine k_aload_n dn_7_4 rfl rfl ?_
  refine k_iconst (v := 5) dn_7_5 rfl ?_
  refine k_newql (n' := 33) dn_7_6 wn_7 rfl rfl (by rw [hX]; decide) rfl ?_
  refine k_putR (ci := 1) (k := 2) dn_7_9 wd_90 (Nat.le_of_ble_eq_true rfl) rfl rfl rfl (Or.inr rfl) rfl rfl (by decide) ?_
  refine k_aload_n dn_7_12 rfl rfl ?_
  refine k_iconst (v := 4) dn_7_13 rfl ?_
  refine k_newal (N := 4) (n' := 34) dn_7_14 wn_1 rfl rfl (by decide) (by rw [hX]; decide) rfl ?_
  refine k_putR (ci := 1) (k := 3) dn_7_16 wd_91 (Nat.le_of_ble_eq_true rfl) rfl rfl rfl (Or.inr rfl) rfl rfl (by decide) ?_
  refine k_aload_n dn_7_19 rfl rfl ?_
  refine k_iconst (v := 0) dn_7_20 rfl ?_
  refine k_putI (ci := 1) (k := 4) dn_7_21 wd_92 (Nat.le_of_ble_eq_true rfl) rfl rfl rfl (Or.inl ⟨rfl, rfl⟩) rfl ?_
  refine k_aload_n dn_7_24 rfl rfl ?_
  refine k_iconst (v := 0) dn_7_25 rfl ?_
  refine k_putI (ci := 1) (k := 5) dn_7_26 wd_93 (Nat.le_of_ble_eq_true rfl) rfl rfl rfl (Or.inl ⟨rfl, rfl⟩) rfl ?_
  refine k_aload_n dn_7_29 rfl rfl ?_
  refine k_iconst (v := 0) dn_7_30 rfl ?_
  refine k_putI (ci := 1) (k := 6) dn_7_31 wd_95 (Nat.le_of_ble_eq_true rfl) rfl rfl rfl (Or.inl ⟨rfl, rfl⟩) rfl ?_
  refine k_aload_n dn_7_34 rfl rfl ?_
  refine k_iconst (v := 0) dn_7_35 rfl ?_
  refine k_putI (ci := 1) (k := 7) dn_7_36 wd_97 (Nat.le_of_ble_eq_true rfl) rfl rfl rfl (Or.inl ⟨rfl, rfl⟩) rfl ?_
  refine k_aload_n dn_7_39 rfl rfl ?_
  refine k_iconst (v := 4) dn_7_40 rfl ?_
  refine k_newal (N := 4) (n' := 35) dn_7_41 wn_1 rfl rfl (by decide) (by rw [hX]; decide) rfl ?_
  refine k_putR (ci := 1) (k := 8) dn_7_43 wd_99 (Nat.le_of_ble_eq_true rfl) rfl rfl rfl (Or.inr rfl) rfl rfl (by decide) ?_
  refine k_aload_n dn_7_46 rfl rfl ?_
  refine k_bipush (v := (-3)) dn_7_47 (by decide) ?_
  refine k_putI (ci := 1) (k := 9) dn_7_49 wd_101 (Nat.le_of_ble_eq_true rfl) rfl rfl rfl (Or.inl ⟨rfl, rfl⟩) rfl ?_
  refine k_aload_n dn_7_52 rfl rfl ?_
  refine k_iconst (v := 0) dn_7_53 rfl ?_
  refine k_putI (ci := 1) (k := 10) dn_7_54 wd_103 (Nat.le_of_ble_eq_true rfl) rfl rfl rfl (Or.inl ⟨rfl, rfl⟩) rfl ?_
  refine k_aload_n dn_7_57 rfl rfl ?_
  refine k_iconst (v := 0) dn_7_58 rfl ?_
  refine k_putI (ci := 1) (k := 11) dn_7_59 wd_105 (Nat.le_of_ble_eq_true rfl) rfl rfl rfl (Or.inl ⟨rfl, rfl⟩) rfl ?_
  refine k_aload_n dn_7_62 rfl rfl ?_
  refine k_aload_n dn_7_63 rfl rfl ?_
  refine k_putR (ci := 1) (k := 0) dn_7_64 wd_88 (Nat.le_of_ble_eq_true rfl) rfl rfl rfl (Or.inr rfl) rfl rfl (by decide) ?_
  refine k_aload_n dn_7_67 rfl rfl ?_
  refine k_aload_n dn_7_68 rfl rfl ?_
  refine k_putR (ci := 1) (k := 1) dn_7_69 wd_89 (Nat.le_of_ble_eq_true rfl) rfl rfl rfl (Or.inr rfl) rfl rfl (by decide) ?_
  refine k_iconst (v := 0) dn_7_72 rfl ?_
  refine k_istl (lv' := [some (.ref 31), some (.ref 1), some (.ref 13), some (.int 0)]) dn_7_73 rfl (Nat.le_of_ble_eq_true rfl) rfl rfl ?_
  refine k_iload_n dn_7_74 rfl rfl ?_
  refine k_aload_n dn_7_75 rfl rfl ?_
  refine k_getR (ci := 1) (k := 2) (b := 32) dn_7_76 wd_90 (Nat.le_of_ble_eq_true rfl) rfl (Or.inr rfl) rfl rfl (by simp [wr, wr]) ?_
  refine k_alenl dn_7_79 rfl ?_
  refine k_icmp_ge (tgt := 102) dn_7_80 rfl (fun q => absurd q (by decide)) (fun _ => ?_)
  refine k_aload_n dn_7_83 rfl rfl ?_
  refine k_getR (ci := 1) (k := 2) (b := 32) dn_7_84 wd_90 (Nat.le_of_ble_eq_true rfl) rfl (Or.inr rfl) rfl rfl (by simp [wr, wr]) ?_
  refine k_iload_n dn_7_87 rfl rfl ?_
  refine k_newl (ci := 3) (n' := 36) dn_7_88 wn_7 wn_8 wn_9 rfl (by rw [hX]; decide) rfl ?_
  refine k_dup dn_7_91 rfl ?_
  refine k_callN (mj := 4) (As := []) (t := [.ref 35, .int 0, .ref 32]) dn_7_92 (by decide) mo_4 mc_4 wn_9 wn_10 rfl rfl rfl (by decide) (Nat.le_of_ble_eq_true rfl) (by rw [hX]; decide) (n_4_35 _) ?_
  refine k_aast (j := 0) dn_7_95 rfl rfl rfl (by decide) rfl ?_
  refine k_iincl (w := 1) (y := 1) (lv' := [some (.ref 31), some (.ref 1), some (.ref 13), some (.int 1)]) dn_7_96 rfl (by decide) (by decide) (Nat.le_of_ble_eq_true rfl) rfl rfl ?_
  refine k_goto (tgt := 74) dn_7_99 rfl ?_
  refine k_iload_n dn_7_74 rfl rfl ?_
  refine k_aload_n dn_7_75 rfl rfl ?_
  refine k_getR (ci := 1) (k := 2) (b := 32) dn_7_76 wd_90 (Nat.le_of_ble_eq_true rfl) rfl (Or.inr rfl) rfl rfl (by simp [wr, q_2_1, q_2_64, q_3_23, q_3_7, q_3_70, q_4_13, q_4_35, q_4_38, q_4_41, q_4_44, q_4_47, q_4_76, q_5_16, q_5_79, q_6_21, q_9_61]) ?_
  refine k_alenl dn_7_79 rfl ?_
  refine k_icmp_ge (tgt := 102) dn_7_80 rfl (fun q => absurd q (by decide)) (fun _ => ?_)
  refine k_aload_n dn_7_83 rfl rfl ?_
  refine k_getR (ci := 1) (k := 2) (b := 32) dn_7_84 wd_90 (Nat.le_of_ble_eq_true rfl) rfl (Or.inr rfl) rfl rfl (by simp [wr, q_2_1, q_2_64, q_3_23, q_3_7, q_3_70, q_4_13, q_4_35, q_4_38, q_4_41, q_4_44, q_4_47, q_4_76, q_5_16, q_5_79, q_6_21, q_9_61]) ?_
  refine k_iload_n dn_7_87 rfl rfl ?_
  refine k_newl (ci := 3) (n' := 39) dn_7_88 wn_7 wn_8 wn_9 rfl (by rw [hX]; decide) rfl ?_
  refine k_dup dn_7_91 rfl ?_
  refine k_callN (mj := 4) (As := []) (t := [.ref 38, .int 1, .ref 32]) dn_7_92 (by decide) mo_4 mc_4 wn_9 wn_10 rfl rfl rfl (by decide) (Nat.le_of_ble_eq_true rfl) (by rw [hX]; decide) (n_4_38 _) ?_
  refine k_aast (j := 1) dn_7_95 rfl rfl rfl (by decide) rfl ?_
  refine k_iincl (w := 1) (y := 2) (lv' := [some (.ref 31), some (.ref 1), some (.ref 13), some (.int 2)]) dn_7_96 rfl (by decide) (by decide) (Nat.le_of_ble_eq_true rfl) rfl rfl ?_
  refine k_goto (tgt := 74) dn_7_99 rfl ?_
  refine k_iload_n dn_7_74 rfl rfl ?_
  refine k_aload_n dn_7_75 rfl rfl ?_
  refine k_getR (ci := 1) (k := 2) (b := 32) dn_7_76 wd_90 (Nat.le_of_ble_eq_true rfl) rfl (Or.inr rfl) rfl rfl (by simp [wr, q_2_1, q_2_64, q_3_23, q_3_7, q_3_70, q_4_13, q_4_35, q_4_38, q_4_41, q_4_44, q_4_47, q_4_76, q_5_16, q_5_79, q_6_21, q_9_61]) ?_
  refine k_alenl dn_7_79 rfl ?_
  refine k_icmp_ge (tgt := 102) dn_7_80 rfl (fun q => absurd q (by decide)) (fun _ => ?_)
  refine k_aload_n dn_7_83 rfl rfl ?_
  refine k_getR (ci := 1) (k := 2) (b := 32) dn_7_84 wd_90 (Nat.le_of_ble_eq_true rfl) rfl (Or.inr rfl) rfl rfl (by simp [wr, q_2_1, q_2_64, q_3_23, q_3_7, q_3_70, q_4_13, q_4_35, q_4_38, q_4_41, q_4_44, q_4_47, q_4_76, q_5_16, q_5_79, q_6_21, q_9_61]) ?_
  refine k_iload_n dn_7_87 rfl rfl ?_
  refine k_newl (ci := 3) (n' := 42) dn_7_88 wn_7 wn_8 wn_9 rfl (by rw [hX]; decide) rfl ?_
  refine k_dup dn_7_91 rfl ?_
  refine k_callN (mj := 4) (As := []) (t := [.ref 41, .int 2, .ref 32]) dn_7_92 (by decide) mo_4 mc_4 wn_9 wn_10 rfl rfl rfl (by decide) (Nat.le_of_ble_eq_true rfl) (by rw [hX]; decide) (n_4_41 _) ?_
  refine k_aast (j := 2) dn_7_95 rfl rfl rfl (by decide) rfl ?_
  refine k_iincl (w := 1) (y := 3) (lv' := [some (.ref 31), some (.ref 1), some (.ref 13), some (.int 3)]) dn_7_96 rfl (by decide) (by decide) (Nat.le_of_ble_eq_true rfl) rfl rfl ?_
  refine k_goto (tgt := 74) dn_7_99 rfl ?_
  refine k_iload_n dn_7_74 rfl rfl ?_
  refine k_aload_n dn_7_75 rfl rfl ?_
  refine k_getR (ci := 1) (k := 2) (b := 32) dn_7_76 wd_90 (Nat.le_of_ble_eq_true rfl) rfl (Or.inr rfl) rfl rfl (by simp [wr, q_2_1, q_2_64, q_3_23, q_3_7, q_3_70, q_4_13, q_4_35, q_4_38, q_4_41, q_4_44, q_4_47, q_4_76, q_5_16, q_5_79, q_6_21, q_9_61]) ?_
  refine k_alenl dn_7_79 rfl ?_
  refine k_icmp_ge (tgt := 102) dn_7_80 rfl (fun q => absurd q (by decide)) (fun _ => ?_)
  refine k_aload_n dn_7_83 rfl rfl ?_
  refine k_getR (ci := 1) (k := 2) (b := 32) dn_7_84 wd_90 (Nat.le_of_ble_eq_true rfl) rfl (Or.inr rfl) rfl rfl (by simp [wr, q_2_1, q_2_64, q_3_23, q_3_7, q_3_70, q_4_13, q_4_35, q_4_38, q_4_41, q_4_44, q_4_47, q_4_76, q_5_16, q_5_79, q_6_21, q_9_61]) ?_
  refine k_iload_n dn_7_87 rfl rfl ?_
  refine k_newl (ci := 3) (n' := 45) dn_7_88 wn_7 wn_8 wn_9 rfl (by rw [hX]; decide) rfl ?_
  refine k_dup dn_7_91 rfl ?_
  refine k_callN (mj := 4) (As := []) (t := [.ref 44, .int 3, .ref 32]) dn_7_92 (by decide) mo_4 mc_4 wn_9 wn_10 rfl rfl rfl (by decide) (Nat.le_of_ble_eq_true rfl) (by rw [hX]; decide) (n_4_44 _) ?_
  refine k_aast (j := 3) dn_7_95 rfl rfl rfl (by decide) rfl ?_
  refine k_iincl (w := 1) (y := 4) (lv' := [some (.ref 31), some (.ref 1), some (.ref 13), some (.int 4)]) dn_7_96 rfl (by decide) (by decide) (Nat.le_of_ble_eq_true rfl) rfl rfl ?_
  refine k_goto (tgt := 74) dn_7_99 rfl ?_
  refine k_iload_n dn_7_74 rfl rfl ?_
  refine k_aload_n dn_7_75 rfl rfl ?_
  refine k_getR (ci := 1) (k := 2) (b := 32) dn_7_76 wd_90 (Nat.le_of_ble_eq_true rfl) rfl (Or.inr rfl) rfl rfl (by simp [wr, q_2_1, q_2_64, q_3_23, q_3_7, q_3_70, q_4_13, q_4_35, q_4_38, q_4_41, q_4_44, q_4_47, q_4_76, q_5_16, q_5_79, q_6_21, q_9_61]) ?_
  refine k_alenl dn_7_79 rfl ?_
  refine k_icmp_ge (tgt := 102) dn_7_80 rfl (fun q => absurd q (by decide)) (fun _ => ?_)
  refine k_aload_n dn_7_83 rfl rfl ?_
  refine k_getR (ci := 1) (k := 2) (b := 32) dn_7_84 wd_90 (Nat.le_of_ble_eq_true rfl) rfl (Or.inr rfl) rfl rfl (by simp [wr, q_2_1, q_2_64, q_3_23, q_3_7, q_3_70, q_4_13, q_4_35, q_4_38, q_4_41, q_4_44, q_4_47, q_4_76, q_5_16, q_5_79, q_6_21, q_9_61]) ?_
  refine k_iload_n dn_7_87 rfl rfl ?_
  refine k_newl (ci := 3) (n' := 48) dn_7_88 wn_7 wn_8 wn_9 rfl (by rw [hX]; decide) rfl ?_
  refine k_dup dn_7_91 rfl ?_
  refine k_callN (mj := 4) (As := []) (t := [.ref 47, .int 4, .ref 32]) dn_7_92 (by decide) mo_4 mc_4 wn_9 wn_10 rfl rfl rfl (by decide) (Nat.le_of_ble_eq_true rfl) (by rw [hX]; decide) (n_4_47 _) ?_
  refine k_aast (j := 4) dn_7_95 rfl rfl rfl (by decide) rfl ?_
  refine k_iincl (w := 1) (y := 5) (lv' := [some (.ref 31), some (.ref 1), some (.ref 13), some (.int 5)]) dn_7_96 rfl (by decide) (by decide) (Nat.le_of_ble_eq_true rfl) rfl rfl ?_
  refine k_goto (tgt := 74) dn_7_99 rfl ?_
  refine k_iload_n dn_7_74 rfl rfl ?_
  refine k_aload_n dn_7_75 rfl rfl ?_
  refine k_getR (ci := 1) (k := 2) (b := 32) dn_7_76 wd_90 (Nat.le_of_ble_eq_true rfl) rfl (Or.inr rfl) rfl rfl (by simp [wr, q_2_1, q_2_64, q_3_23, q_3_7, q_3_70, q_4_13, q_4_35, q_4_38, q_4_41, q_4_44, q_4_47, q_4_76, q_5_16, q_5_79, q_6_21, q_9_61]) ?_
  refine k_alenl dn_7_79 rfl ?_
  refine k_icmp_ge (tgt := 102) dn_7_80 rfl (fun _ => ?_) (fun q => absurd (by decide) q)
  exact k_ret dn_7_102 hq
theorem dn_8_0 : decode (mth 8).2.1 0 = .ok (.aload_n 0, 1) := by decide +kernel
theorem dn_8_1 : decode (mth 8).2.1 1 = .ok (.invokespecial 3, 3) := by decide +kernel
theorem dn_8_4 : decode (mth 8).2.1 4 = .ok (.aload_n 0, 1) := by decide +kernel
theorem dn_8_5 : decode (mth 8).2.1 5 = .ok (.iconst (4), 1) := by decide +kernel
theorem dn_8_6 : decode (mth 8).2.1 6 = .ok (.newarray .int, 2) := by decide +kernel
theorem dn_8_8 : decode (mth 8).2.1 8 = .ok (.dup, 1) := by decide +kernel
theorem dn_8_9 : decode (mth 8).2.1 9 = .ok (.iconst (0), 1) := by decide +kernel
theorem dn_8_10 : decode (mth 8).2.1 10 = .ok (.iconst (-1), 1) := by decide +kernel
theorem dn_8_11 : decode (mth 8).2.1 11 = .ok (.iastore, 1) := by decide +kernel
theorem dn_8_12 : decode (mth 8).2.1 12 = .ok (.dup, 1) := by decide +kernel
theorem dn_8_13 : decode (mth 8).2.1 13 = .ok (.iconst (1), 1) := by decide +kernel
theorem dn_8_14 : decode (mth 8).2.1 14 = .ok (.iconst (-1), 1) := by decide +kernel
theorem dn_8_15 : decode (mth 8).2.1 15 = .ok (.iastore, 1) := by decide +kernel
theorem dn_8_16 : decode (mth 8).2.1 16 = .ok (.dup, 1) := by decide +kernel
theorem dn_8_17 : decode (mth 8).2.1 17 = .ok (.iconst (2), 1) := by decide +kernel
theorem dn_8_18 : decode (mth 8).2.1 18 = .ok (.iconst (-1), 1) := by decide +kernel
theorem dn_8_19 : decode (mth 8).2.1 19 = .ok (.iastore, 1) := by decide +kernel
theorem dn_8_20 : decode (mth 8).2.1 20 = .ok (.dup, 1) := by decide +kernel
theorem dn_8_21 : decode (mth 8).2.1 21 = .ok (.iconst (3), 1) := by decide +kernel
theorem dn_8_22 : decode (mth 8).2.1 22 = .ok (.iconst (-1), 1) := by decide +kernel
theorem dn_8_23 : decode (mth 8).2.1 23 = .ok (.iastore, 1) := by decide +kernel
theorem dn_8_24 : decode (mth 8).2.1 24 = .ok (.putfield 11, 3) := by decide +kernel
theorem dn_8_27 : decode (mth 8).2.1 27 = .ok (.aload_n 0, 1) := by decide +kernel
theorem dn_8_28 : decode (mth 8).2.1 28 = .ok (.iconst (4), 1) := by decide +kernel
theorem dn_8_29 : decode (mth 8).2.1 29 = .ok (.newarray .int, 2) := by decide +kernel
theorem dn_8_31 : decode (mth 8).2.1 31 = .ok (.putfield 15, 3) := by decide +kernel
theorem dn_8_34 : decode (mth 8).2.1 34 = .ok (.aload_n 0, 1) := by decide +kernel
theorem dn_8_35 : decode (mth 8).2.1 35 = .ok (.iconst (4), 1) := by decide +kernel
theorem dn_8_36 : decode (mth 8).2.1 36 = .ok (.bipush (40), 2) := by decide +kernel
theorem dn_8_38 : decode (mth 8).2.1 38 = .ok (.multianewarray 18 2, 4) := by decide +kernel
set_option maxRecDepth 100000 in
theorem wn_11 : Jvm.Cond.classLink "PlayedTruth$Host" 18 "[[I" ∈ tbl := in_t2 (List.mem_of_getElem? (i := 42) rfl) rfl
theorem dn_8_42 : decode (mth 8).2.1 42 = .ok (.putfield 20, 3) := by decide +kernel
theorem dn_8_45 : decode (mth 8).2.1 45 = .ok (.aload_n 0, 1) := by decide +kernel
theorem dn_8_46 : decode (mth 8).2.1 46 = .ok (.iconst (4), 1) := by decide +kernel
theorem dn_8_47 : decode (mth 8).2.1 47 = .ok (.newarray .int, 2) := by decide +kernel
theorem dn_8_49 : decode (mth 8).2.1 49 = .ok (.putfield 23, 3) := by decide +kernel
theorem dn_8_52 : decode (mth 8).2.1 52 = .ok (.aload_n 0, 1) := by decide +kernel
theorem dn_8_53 : decode (mth 8).2.1 53 = .ok (.iconst (4), 1) := by decide +kernel
theorem dn_8_54 : decode (mth 8).2.1 54 = .ok (.newarray .int, 2) := by decide +kernel
theorem dn_8_56 : decode (mth 8).2.1 56 = .ok (.putfield 26, 3) := by decide +kernel
theorem dn_8_59 : decode (mth 8).2.1 59 = .ok (.aload_n 0, 1) := by decide +kernel
theorem dn_8_60 : decode (mth 8).2.1 60 = .ok (.iconst (4), 1) := by decide +kernel
theorem dn_8_61 : decode (mth 8).2.1 61 = .ok (.newarray .int, 2) := by decide +kernel
theorem dn_8_63 : decode (mth 8).2.1 63 = .ok (.putfield 29, 3) := by decide +kernel
theorem dn_8_66 : decode (mth 8).2.1 66 = .ok (.return_, 1) := by decide +kernel
def q_8_50 (h : Hp) : Hp := (wr (wr (wr (wr (wr (wr (wr (wr (wr (wr (wr (wr (wr (wr h 51 0 (-1)) 51 1 (-1)) 51 2 (-1)) 51 3 (-1)) 50 0 1) 50 1 1) 53 0 1) 53 1 1) 53 2 1) 53 3 1) 50 2 1) 50 3 1) 50 4 1) 50 5 1)
set_option maxHeartbeats 4000000 in
set_option maxRecDepth 100000 in
theorem n_8_50 (h : Hp) : CN 1 8 [.ref 50] h 51 (q_8_50 h) 61 := by
  refine CN.of mo_8 rfl (Nat.le_of_ble_eq_true rfl) (by decide) (by decide) (fun X hX hq => ?_)
  show K X 1 8 0 [some (.ref 50)] [] h 51
  refine k_aload_n dn_8_0 rfl rfl ?_
  refine k_obj dn_8_1 wd_107 wn_0 (by decide) (by decide) ?_
  refine k_aload_n dn_8_4 rfl rfl ?_
  refine k_iconst (v := 4) dn_8_5 rfl ?_
  refine k_newal (N := 4) (n' := 52) dn_8_6 wn_1 rfl rfl (by decide) (by rw [hX]; decide) rfl ?_
  refine k_dup dn_8_8 rfl ?_
  refine k_iconst (v := 0) dn_8_9 rfl ?_
  refine k_iconst (v := (-1)) dn_8_10 rfl ?_
  refine k_iast (N := 4) (j := 0) dn_8_11 rfl rfl (by decide) (by decide) ?_
  refine k_dup dn_8_12 rfl ?_
  refine k_iconst (v := 1) dn_8_13 rfl ?_
  refine k_iconst (v := (-1)) dn_8_14 rfl ?_
  refine k_iast (N := 4) (j := 1) dn_8_15 rfl rfl (by decide) (by decide) ?_
  refine k_dup dn_8_16 rfl ?_
  refine k_iconst (v := 2) dn_8_17 rfl ?_
  refine k_iconst (v := (-1)) dn_8_18 rfl ?_
  refine k_iast (N := 4) (j := 2) dn_8_19 rfl rfl (by decide) (by decide) ?_
  refine k_dup dn_8_20 rfl ?_
  refine k_iconst (v := 3) dn_8_21 rfl ?_
  refine k_iconst (v := (-1)) dn_8_22 rfl ?_
  refine k_iast (N := 4) (j := 3) dn_8_23 rfl rfl (by decide) (by decide) ?_
  refine k_putR (ci := 2) (k := 0) dn_8_24 wd_108 (Nat.le_of_ble_eq_true rfl) rfl rfl rfl (Or.inr rfl) rfl rfl (by decide) ?_
  refine k_aload_n dn_8_27 rfl rfl ?_
  refine k_iconst (v := 4) dn_8_28 rfl ?_
  refine k_newal (N := 4) (n' := 53) dn_8_29 wn_1 rfl rfl (by decide) (by rw [hX]; decide) rfl ?_
  refine k_putR (ci := 2) (k := 1) dn_8_31 wd_110 (Nat.le_of_ble_eq_true rfl) rfl rfl rfl (Or.inr rfl) rfl rfl (by decide) ?_
  refine k_aload_n dn_8_34 rfl rfl ?_
  refine k_iconst (v := 4) dn_8_35 rfl ?_
  refine k_bipush (v := 40) dn_8_36 (by decide) ?_
  refine k_multi dn_8_38 wn_11 (by rw [hX]; decide) ?_
  refine k_putR (ci := 2) (k := 2) dn_8_42 wd_111 (Nat.le_of_ble_eq_true rfl) rfl rfl rfl (Or.inr rfl) rfl rfl (by decide) ?_
  refine k_aload_n dn_8_45 rfl rfl ?_
  refine k_iconst (v := 4) dn_8_46 rfl ?_
  refine k_newal (N := 4) (n' := 59) dn_8_47 wn_1 rfl rfl (by decide) (by rw [hX]; decide) rfl ?_
  refine k_putR (ci := 2) (k := 3) dn_8_49 wd_114 (Nat.le_of_ble_eq_true rfl) rfl rfl rfl (Or.inr rfl) rfl rfl (by decide) ?_
  refine k_aload_n dn_8_52 rfl rfl ?_
  refine k_iconst (v := 4) dn_8_53 rfl ?_
  refine k_newal (N := 4) (n' := 60) dn_8_54 wn_1 rfl rfl (by decide) (by rw [hX]; decide) rfl ?_
  refine k_putR (ci := 2) (k := 4) dn_8_56 wd_116 (Nat.le_of_ble_eq_true rfl) rfl rfl rfl (Or.inr rfl) rfl rfl (by decide) ?_
  refine k_aload_n dn_8_59 rfl rfl ?_
  refine k_iconst (v := 4) dn_8_60 rfl ?_
  refine k_newal (N := 4) (n' := 61) dn_8_61 wn_1 rfl rfl (by decide) (by rw [hX]; decide) rfl ?_
  refine k_putR (ci := 2) (k := 5) dn_8_63 wd_118 (Nat.le_of_ble_eq_true rfl) rfl rfl rfl (Or.inr rfl) rfl rfl (by decide) ?_
  exact k_ret dn_8_66 hq
