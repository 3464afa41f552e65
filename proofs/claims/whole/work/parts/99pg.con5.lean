/-! part 99pg: constructors: the class (written by wip/whole/gencon.py) -/
theorem dn_0_0 : decode (mth 0).2.1 0 = .ok (.aload_n 0, 1) := by decide +kernel
theorem dn_0_1 : decode (mth 0).2.1 1 = .ok (.invokespecial 1, 3) := by decide +kernel
theorem dn_0_4 : decode (mth 0).2.1 4 = .ok (.aload_n 0, 1) := by decide +kernel
theorem dn_0_5 : decode (mth 0).2.1 5 = .ok (.new 7, 3) := by decide +kernel
set_option maxRecDepth 100000 in
theorem wn_12 : Jvm.Cond.classLink "PlayedTruth" 7 "PlayedTruth$Stage" ∈ tbl := in_t1 (List.mem_of_getElem? (i := 27) rfl) rfl
set_option maxRecDepth 100000 in
theorem wn_13 : Jvm.Cond.instantiable "PlayedTruth$Stage" 9 ∈ tbl := in_t1 (List.mem_of_getElem? (i := 28) rfl) rfl
set_option maxRecDepth 100000 in
theorem wn_14 : Jvm.Cond.initialized "PlayedTruth$Stage" ∈ tbl := in_t1 (List.mem_of_getElem? (i := 2) rfl) rfl
theorem dn_0_8 : decode (mth 0).2.1 8 = .ok (.dup, 1) := by decide +kernel
theorem dn_0_9 : decode (mth 0).2.1 9 = .ok (.invokespecial 9, 3) := by decide +kernel
set_option maxRecDepth 100000 in
theorem wn_15 : Jvm.Cond.instanceMethod ⟨"PlayedTruth$Stage", "<init>", "()V"⟩ ∈ tbl := in_t1 (List.mem_of_getElem? (i := 30) rfl) rfl
theorem dn_0_12 : decode (mth 0).2.1 12 = .ok (.putfield 10, 3) := by decide +kernel
theorem dn_0_15 : decode (mth 0).2.1 15 = .ok (.aload_n 0, 1) := by decide +kernel
theorem dn_0_16 : decode (mth 0).2.1 16 = .ok (.new 16, 3) := by decide +kernel
set_option maxRecDepth 100000 in
theorem wn_16 : Jvm.Cond.classLink "PlayedTruth" 16 "PlayedTruth$Moment" ∈ tbl := in_t1 (List.mem_of_getElem? (i := 100) rfl) rfl
theorem dn_0_19 : decode (mth 0).2.1 19 = .ok (.dup, 1) := by decide +kernel
theorem dn_0_20 : decode (mth 0).2.1 20 = .ok (.invokespecial 18, 3) := by decide +kernel
theorem dn_0_23 : decode (mth 0).2.1 23 = .ok (.putfield 19, 3) := by decide +kernel
theorem dn_0_26 : decode (mth 0).2.1 26 = .ok (.aload_n 0, 1) := by decide +kernel
theorem dn_0_27 : decode (mth 0).2.1 27 = .ok (.new 23, 3) := by decide +kernel
set_option maxRecDepth 100000 in
theorem wn_17 : Jvm.Cond.classLink "PlayedTruth" 23 "PlayedTruth$Strangers" ∈ tbl := in_t1 (List.mem_of_getElem? (i := 141) rfl) rfl
set_option maxRecDepth 100000 in
theorem wn_18 : Jvm.Cond.instantiable "PlayedTruth$Strangers" 10 ∈ tbl := in_t1 (List.mem_of_getElem? (i := 142) rfl) rfl
set_option maxRecDepth 100000 in
theorem wn_19 : Jvm.Cond.initialized "PlayedTruth$Strangers" ∈ tbl := in_t1 (List.mem_of_getElem? (i := 5) rfl) rfl
theorem dn_0_30 : decode (mth 0).2.1 30 = .ok (.dup, 1) := by decide +kernel
theorem dn_0_31 : decode (mth 0).2.1 31 = .ok (.invokespecial 25, 3) := by decide +kernel
set_option maxRecDepth 100000 in
theorem wn_20 : Jvm.Cond.instanceMethod ⟨"PlayedTruth$Strangers", "<init>", "()V"⟩ ∈ tbl := in_t1 (List.mem_of_getElem? (i := 144) rfl) rfl
theorem dn_0_34 : decode (mth 0).2.1 34 = .ok (.putfield 26, 3) := by decide +kernel
theorem dn_0_37 : decode (mth 0).2.1 37 = .ok (.aload_n 0, 1) := by decide +kernel
theorem dn_0_38 : decode (mth 0).2.1 38 = .ok (.new 30, 3) := by decide +kernel
set_option maxRecDepth 100000 in
theorem wn_21 : Jvm.Cond.classLink "PlayedTruth" 30 "PlayedTruth$RuleReader" ∈ tbl := in_t1 (List.mem_of_getElem? (i := 184) rfl) rfl
set_option maxRecDepth 100000 in
theorem wn_22 : Jvm.Cond.instantiable "PlayedTruth$RuleReader" 9 ∈ tbl := in_t1 (List.mem_of_getElem? (i := 185) rfl) rfl
set_option maxRecDepth 100000 in
theorem wn_23 : Jvm.Cond.initialized "PlayedTruth$RuleReader" ∈ tbl := in_t1 (List.mem_of_getElem? (i := 6) rfl) rfl
theorem dn_0_41 : decode (mth 0).2.1 41 = .ok (.dup, 1) := by decide +kernel
theorem dn_0_42 : decode (mth 0).2.1 42 = .ok (.invokespecial 32, 3) := by decide +kernel
set_option maxRecDepth 100000 in
theorem wn_24 : Jvm.Cond.instanceMethod ⟨"PlayedTruth$RuleReader", "<init>", "()V"⟩ ∈ tbl := in_t1 (List.mem_of_getElem? (i := 187) rfl) rfl
theorem dn_0_45 : decode (mth 0).2.1 45 = .ok (.putfield 33, 3) := by decide +kernel
theorem dn_0_48 : decode (mth 0).2.1 48 = .ok (.aload_n 0, 1) := by decide +kernel
theorem dn_0_49 : decode (mth 0).2.1 49 = .ok (.new 37, 3) := by decide +kernel
set_option maxRecDepth 100000 in
theorem wn_25 : Jvm.Cond.classLink "PlayedTruth" 37 "PlayedTruth$Ahead" ∈ tbl := in_t1 (List.mem_of_getElem? (i := 223) rfl) rfl
set_option maxRecDepth 100000 in
theorem wn_26 : Jvm.Cond.instantiable "PlayedTruth$Ahead" 12 ∈ tbl := in_t1 (List.mem_of_getElem? (i := 224) rfl) rfl
set_option maxRecDepth 100000 in
theorem wn_27 : Jvm.Cond.initialized "PlayedTruth$Ahead" ∈ tbl := in_t1 (List.mem_of_getElem? (i := 7) rfl) rfl
theorem dn_0_52 : decode (mth 0).2.1 52 = .ok (.dup, 1) := by decide +kernel
theorem dn_0_53 : decode (mth 0).2.1 53 = .ok (.aload_n 0, 1) := by decide +kernel
theorem dn_0_54 : decode (mth 0).2.1 54 = .ok (.getfield 10, 3) := by decide +kernel
theorem dn_0_57 : decode (mth 0).2.1 57 = .ok (.aload_n 0, 1) := by decide +kernel
theorem dn_0_58 : decode (mth 0).2.1 58 = .ok (.getfield 19, 3) := by decide +kernel
theorem dn_0_61 : decode (mth 0).2.1 61 = .ok (.invokespecial 39, 3) := by decide +kernel
set_option maxRecDepth 100000 in
theorem wn_28 : Jvm.Cond.instanceMethod ⟨"PlayedTruth$Ahead", "<init>", "(LPlayedTruth$Stage;LPlayedTruth$Moment;)V"⟩ ∈ tbl := in_t1 (List.mem_of_getElem? (i := 226) rfl) rfl
theorem dn_0_64 : decode (mth 0).2.1 64 = .ok (.putfield 42, 3) := by decide +kernel
theorem dn_0_67 : decode (mth 0).2.1 67 = .ok (.aload_n 0, 1) := by decide +kernel
theorem dn_0_68 : decode (mth 0).2.1 68 = .ok (.new 46, 3) := by decide +kernel
set_option maxRecDepth 100000 in
theorem wn_29 : Jvm.Cond.classLink "PlayedTruth" 46 "PlayedTruth$Host" ∈ tbl := in_t2 (List.mem_of_getElem? (i := 36) rfl) rfl
set_option maxRecDepth 100000 in
theorem wn_30 : Jvm.Cond.instantiable "PlayedTruth$Host" 6 ∈ tbl := in_t2 (List.mem_of_getElem? (i := 37) rfl) rfl
set_option maxRecDepth 100000 in
theorem wn_31 : Jvm.Cond.initialized "PlayedTruth$Host" ∈ tbl := in_t1 (List.mem_of_getElem? (i := 8) rfl) rfl
theorem dn_0_71 : decode (mth 0).2.1 71 = .ok (.dup, 1) := by decide +kernel
theorem dn_0_72 : decode (mth 0).2.1 72 = .ok (.invokespecial 48, 3) := by decide +kernel
set_option maxRecDepth 100000 in
theorem wn_32 : Jvm.Cond.instanceMethod ⟨"PlayedTruth$Host", "<init>", "()V"⟩ ∈ tbl := in_t2 (List.mem_of_getElem? (i := 39) rfl) rfl
theorem dn_0_75 : decode (mth 0).2.1 75 = .ok (.putfield 49, 3) := by decide +kernel
theorem dn_0_78 : decode (mth 0).2.1 78 = .ok (.aload_n 0, 1) := by decide +kernel
theorem dn_0_79 : decode (mth 0).2.1 79 = .ok (.new 53, 3) := by decide +kernel
set_option maxRecDepth 100000 in
theorem wn_33 : Jvm.Cond.classLink "PlayedTruth" 53 "PlayedTruth$Acting" ∈ tbl := in_t2 (List.mem_of_getElem? (i := 69) rfl) rfl
set_option maxRecDepth 100000 in
theorem wn_34 : Jvm.Cond.instantiable "PlayedTruth$Acting" 6 ∈ tbl := in_t2 (List.mem_of_getElem? (i := 70) rfl) rfl
set_option maxRecDepth 100000 in
theorem wn_35 : Jvm.Cond.initialized "PlayedTruth$Acting" ∈ tbl := in_t1 (List.mem_of_getElem? (i := 9) rfl) rfl
theorem dn_0_82 : decode (mth 0).2.1 82 = .ok (.dup, 1) := by decide +kernel
theorem dn_0_83 : decode (mth 0).2.1 83 = .ok (.invokespecial 55, 3) := by decide +kernel
set_option maxRecDepth 100000 in
theorem wn_36 : Jvm.Cond.instanceMethod ⟨"PlayedTruth$Acting", "<init>", "()V"⟩ ∈ tbl := in_t2 (List.mem_of_getElem? (i := 72) rfl) rfl
theorem dn_0_86 : decode (mth 0).2.1 86 = .ok (.putfield 56, 3) := by decide +kernel
theorem dn_0_89 : decode (mth 0).2.1 89 = .ok (.aload_n 0, 1) := by decide +kernel
theorem dn_0_90 : decode (mth 0).2.1 90 = .ok (.bipush (12), 2) := by decide +kernel
theorem dn_0_92 : decode (mth 0).2.1 92 = .ok (.newarray .int, 2) := by decide +kernel
theorem dn_0_94 : decode (mth 0).2.1 94 = .ok (.putfield 60, 3) := by decide +kernel
theorem dn_0_97 : decode (mth 0).2.1 97 = .ok (.aload_n 0, 1) := by decide +kernel
theorem dn_0_98 : decode (mth 0).2.1 98 = .ok (.iconst (0), 1) := by decide +kernel
theorem dn_0_99 : decode (mth 0).2.1 99 = .ok (.putfield 64, 3) := by decide +kernel
theorem dn_0_102 : decode (mth 0).2.1 102 = .ok (.aload_n 0, 1) := by decide +kernel
theorem dn_0_103 : decode (mth 0).2.1 103 = .ok (.new 7, 3) := by decide +kernel
theorem dn_0_106 : decode (mth 0).2.1 106 = .ok (.dup, 1) := by decide +kernel
theorem dn_0_107 : decode (mth 0).2.1 107 = .ok (.invokespecial 9, 3) := by decide +kernel
theorem dn_0_110 : decode (mth 0).2.1 110 = .ok (.putfield 68, 3) := by decide +kernel
theorem dn_0_113 : decode (mth 0).2.1 113 = .ok (.aload_n 0, 1) := by decide +kernel
theorem dn_0_114 : decode (mth 0).2.1 114 = .ok (.new 16, 3) := by decide +kernel
theorem dn_0_117 : decode (mth 0).2.1 117 = .ok (.dup, 1) := by decide +kernel
theorem dn_0_118 : decode (mth 0).2.1 118 = .ok (.invokespecial 18, 3) := by decide +kernel
theorem dn_0_121 : decode (mth 0).2.1 121 = .ok (.putfield 71, 3) := by decide +kernel
theorem dn_0_124 : decode (mth 0).2.1 124 = .ok (.aload_n 0, 1) := by decide +kernel
theorem dn_0_125 : decode (mth 0).2.1 125 = .ok (.new 23, 3) := by decide +kernel
theorem dn_0_128 : decode (mth 0).2.1 128 = .ok (.dup, 1) := by decide +kernel
theorem dn_0_129 : decode (mth 0).2.1 129 = .ok (.invokespecial 25, 3) := by decide +kernel
theorem dn_0_132 : decode (mth 0).2.1 132 = .ok (.putfield 74, 3) := by decide +kernel
theorem dn_0_135 : decode (mth 0).2.1 135 = .ok (.aload_n 0, 1) := by decide +kernel
theorem dn_0_136 : decode (mth 0).2.1 136 = .ok (.iconst (0), 1) := by decide +kernel
theorem dn_0_137 : decode (mth 0).2.1 137 = .ok (.putfield 77, 3) := by decide +kernel
theorem dn_0_140 : decode (mth 0).2.1 140 = .ok (.return_, 1) := by decide +kernel
def q_0_0 (h : Hp) : Hp := (wr (wr (q_5_79 (wr (q_4_76 (wr (q_2_64 (wr (wr (wr (q_9_61 (wr (q_8_50 (wr (q_7_31 (wr (q_6_21 (wr (q_5_16 (wr (q_4_13 (wr (q_2_1 h) 0 0 1)) 0 1 1)) 0 2 1)) 0 3 1)) 0 4 1)) 0 5 1)) 0 6 1) 0 7 1) 0 8 0)) 0 9 1)) 0 10 1)) 0 11 1) 0 12 0)
set_option maxHeartbeats 4000000 in
set_option maxRecDepth 100000 in
theorem n_0_0 (h : Hp) : CN 3 0 [.ref 0] h 1 (q_0_0 h) 84 := by
  refine CN.of mo_0 rfl (Nat.le_of_ble_eq_true rfl) (by decide) (by decide) (fun X hX hq => ?_)
  show K X 3 0 0 [some (.ref 0)] [] h 1
  refine k_aload_n dn_0_0 rfl rfl ?_
  refine k_obj dn_0_1 wd_1 wn_0 (by decide) (by decide) ?_
  refine k_aload_n dn_0_4 rfl rfl ?_
  refine k_newl (ci := 6) (n' := 2) dn_0_5 wn_12 wn_13 wn_14 rfl (by rw [hX]; decide) rfl ?_
  refine k_dup dn_0_8 rfl ?_
  refine k_callI (mj := 2) (As := []) (t := [.ref 1, .ref 0]) dn_0_9 wd_2 mo_2 mc_2 wn_14 wn_15 rfl rfl rfl (by decide) (Nat.le_of_ble_eq_true rfl) (by rw [hX]; decide) (n_2_1 _) ?_
  refine k_putR (ci := 8) (k := 0) dn_0_12 wd_129 (Nat.le_of_ble_eq_true rfl) rfl rfl rfl (Or.inr rfl) rfl rfl (by decide) ?_
  refine k_aload_n dn_0_15 rfl rfl ?_
  refine k_newl (ci := 3) (n' := 14) dn_0_16 wn_16 wn_8 wn_9 rfl (by rw [hX]; decide) rfl ?_
  refine k_dup dn_0_19 rfl ?_
  refine k_callN (mj := 4) (As := []) (t := [.ref 13, .ref 0]) dn_0_20 (by decide) mo_4 mc_4 wn_9 wn_10 rfl rfl rfl (by decide) (Nat.le_of_ble_eq_true rfl) (by rw [hX]; decide) (n_4_13 _) ?_
  refine k_putR (ci := 8) (k := 1) dn_0_23 wd_130 (Nat.le_of_ble_eq_true rfl) rfl rfl rfl (Or.inr rfl) rfl rfl (by decide) ?_
  refine k_aload_n dn_0_26 rfl rfl ?_
  refine k_newl (ci := 7) (n' := 17) dn_0_27 wn_17 wn_18 wn_19 rfl (by rw [hX]; decide) rfl ?_
  refine k_dup dn_0_30 rfl ?_
  refine k_callN (mj := 5) (As := []) (t := [.ref 16, .ref 0]) dn_0_31 (by decide) mo_5 mc_5 wn_19 wn_20 rfl rfl rfl (by decide) (Nat.le_of_ble_eq_true rfl) (by rw [hX]; decide) (n_5_16 _) ?_
  refine k_putR (ci := 8) (k := 2) dn_0_34 wd_131 (Nat.le_of_ble_eq_true rfl) rfl rfl rfl (Or.inr rfl) rfl rfl (by decide) ?_
  refine k_aload_n dn_0_37 rfl rfl ?_
  refine k_newl (ci := 4) (n' := 22) dn_0_38 wn_21 wn_22 wn_23 rfl (by rw [hX]; decide) rfl ?_
  refine k_dup dn_0_41 rfl ?_
  refine k_callN (mj := 6) (As := []) (t := [.ref 21, .ref 0]) dn_0_42 (by decide) mo_6 mc_6 wn_23 wn_24 rfl rfl rfl (by decide) (Nat.le_of_ble_eq_true rfl) (by rw [hX]; decide) (n_6_21 _) ?_
  refine k_putR (ci := 8) (k := 3) dn_0_45 wd_132 (Nat.le_of_ble_eq_true rfl) rfl rfl rfl (Or.inr rfl) rfl rfl (by decide) ?_
  refine k_aload_n dn_0_48 rfl rfl ?_
  refine k_newl (ci := 1) (n' := 32) dn_0_49 wn_25 wn_26 wn_27 rfl (by rw [hX]; decide) rfl ?_
  refine k_dup dn_0_52 rfl ?_
  refine k_aload_n dn_0_53 rfl rfl ?_
  refine k_getR (ci := 8) (k := 0) (b := 1) dn_0_54 wd_129 (Nat.le_of_ble_eq_true rfl) rfl (Or.inr rfl) rfl rfl (by simp [wr, q_175_84, q_2_1, q_2_64, q_3_23, q_3_7, q_3_70, q_4_13, q_4_35, q_4_38, q_4_41, q_4_44, q_4_47, q_4_76, q_5_16, q_5_79, q_6_21, q_7_31, q_8_50, q_9_61]) ?_
  refine k_aload_n dn_0_57 rfl rfl ?_
  refine k_getR (ci := 8) (k := 1) (b := 13) dn_0_58 wd_130 (Nat.le_of_ble_eq_true rfl) rfl (Or.inr rfl) rfl rfl (by simp [wr, q_175_84, q_2_1, q_2_64, q_3_23, q_3_7, q_3_70, q_4_13, q_4_35, q_4_38, q_4_41, q_4_44, q_4_47, q_4_76, q_5_16, q_5_79, q_6_21, q_7_31, q_8_50, q_9_61]) ?_
  refine k_callI (mj := 7) (As := [.ref 1, .ref 13]) (t := [.ref 31, .ref 0]) dn_0_61 wd_86 mo_7 mc_7 wn_27 wn_28 rfl rfl rfl (by decide) (Nat.le_of_ble_eq_true rfl) (by rw [hX]; decide) (n_7_31 _) ?_
  refine k_putR (ci := 8) (k := 4) dn_0_64 wd_133 (Nat.le_of_ble_eq_true rfl) rfl rfl rfl (Or.inr rfl) rfl rfl (by decide) ?_
  refine k_aload_n dn_0_67 rfl rfl ?_
  refine k_newl (ci := 2) (n' := 51) dn_0_68 wn_29 wn_30 wn_31 rfl (by rw [hX]; decide) rfl ?_
  refine k_dup dn_0_71 rfl ?_
  refine k_callN (mj := 8) (As := []) (t := [.ref 50, .ref 0]) dn_0_72 (by decide) mo_8 mc_8 wn_31 wn_32 rfl rfl rfl (by decide) (Nat.le_of_ble_eq_true rfl) (by rw [hX]; decide) (n_8_50 _) ?_
  refine k_putR (ci := 8) (k := 5) dn_0_75 wd_134 (Nat.le_of_ble_eq_true rfl) rfl rfl rfl (Or.inr rfl) rfl rfl (by decide) ?_
  refine k_aload_n dn_0_78 rfl rfl ?_
  refine k_newl (ci := 0) (n' := 62) dn_0_79 wn_33 wn_34 wn_35 rfl (by rw [hX]; decide) rfl ?_
  refine k_dup dn_0_82 rfl ?_
  refine k_callN (mj := 9) (As := []) (t := [.ref 61, .ref 0]) dn_0_83 (by decide) mo_9 mc_9 wn_35 wn_36 rfl rfl rfl (by decide) (Nat.le_of_ble_eq_true rfl) (by rw [hX]; decide) (n_9_61 _) ?_
  refine k_putR (ci := 8) (k := 6) dn_0_86 wd_135 (Nat.le_of_ble_eq_true rfl) rfl rfl rfl (Or.inr rfl) rfl rfl (by decide) ?_
  refine k_aload_n dn_0_89 rfl rfl ?_
  refine k_bipush (v := 12) dn_0_90 (by decide) ?_
  refine k_newal (N := 12) (n' := 64) dn_0_92 wn_1 rfl rfl (by decide) (by rw [hX]; decide) rfl ?_
  refine k_putR (ci := 8) (k := 7) dn_0_94 wd_136 (Nat.le_of_ble_eq_true rfl) rfl rfl rfl (Or.inr rfl) rfl rfl (by decide) ?_
  refine k_aload_n dn_0_97 rfl rfl ?_
  refine k_iconst (v := 0) dn_0_98 rfl ?_
  refine k_putI (ci := 8) (k := 8) dn_0_99 wd_137 (Nat.le_of_ble_eq_true rfl) rfl rfl rfl (Or.inl ⟨rfl, rfl⟩) rfl ?_
  refine k_aload_n dn_0_102 rfl rfl ?_
  refine k_newl (ci := 6) (n' := 65) dn_0_103 wn_12 wn_13 wn_14 rfl (by rw [hX]; decide) rfl ?_
  refine k_dup dn_0_106 rfl ?_
  refine k_callI (mj := 2) (As := []) (t := [.ref 64, .ref 0]) dn_0_107 wd_2 mo_2 mc_2 wn_14 wn_15 rfl rfl rfl (by decide) (Nat.le_of_ble_eq_true rfl) (by rw [hX]; decide) (n_2_64 _) ?_
  refine k_putR (ci := 8) (k := 9) dn_0_110 wd_138 (Nat.le_of_ble_eq_true rfl) rfl rfl rfl (Or.inr rfl) rfl rfl (by decide) ?_
  refine k_aload_n dn_0_113 rfl rfl ?_
  refine k_newl (ci := 3) (n' := 77) dn_0_114 wn_16 wn_8 wn_9 rfl (by rw [hX]; decide) rfl ?_
  refine k_dup dn_0_117 rfl ?_
  refine k_callN (mj := 4) (As := []) (t := [.ref 76, .ref 0]) dn_0_118 (by decide) mo_4 mc_4 wn_9 wn_10 rfl rfl rfl (by decide) (Nat.le_of_ble_eq_true rfl) (by rw [hX]; decide) (n_4_76 _) ?_
  refine k_putR (ci := 8) (k := 10) dn_0_121 wd_139 (Nat.le_of_ble_eq_true rfl) rfl rfl rfl (Or.inr rfl) rfl rfl (by decide) ?_
  refine k_aload_n dn_0_124 rfl rfl ?_
  refine k_newl (ci := 7) (n' := 80) dn_0_125 wn_17 wn_18 wn_19 rfl (by rw [hX]; decide) rfl ?_
  refine k_dup dn_0_128 rfl ?_
  refine k_callN (mj := 5) (As := []) (t := [.ref 79, .ref 0]) dn_0_129 (by decide) mo_5 mc_5 wn_19 wn_20 rfl rfl rfl (by decide) (Nat.le_of_ble_eq_true rfl) (by rw [hX]; decide) (n_5_79 _) ?_
  refine k_putR (ci := 8) (k := 11) dn_0_132 wd_140 (Nat.le_of_ble_eq_true rfl) rfl rfl rfl (Or.inr rfl) rfl rfl (by decide) ?_
  refine k_aload_n dn_0_135 rfl rfl ?_
  refine k_iconst (v := 0) dn_0_136 rfl ?_
  refine k_putI (ci := 8) (k := 12) dn_0_137 wd_141 (Nat.le_of_ble_eq_true rfl) rfl rfl rfl (Or.inr ⟨rfl, rfl, Or.inl rfl⟩) rfl ?_
  exact k_ret dn_0_140 hq
