/-! part 99pf: constructors: the model (written by wip/whole/gencon.py) -/
theorem dn_175_0 : decode (mth 175).2.1 0 = .ok (.aload_n 0, 1) := by decide +kernel
theorem dn_175_1 : decode (mth 175).2.1 1 = .ok (.invokespecial 1, 3) := by decide +kernel
theorem dn_175_4 : decode (mth 175).2.1 4 = .ok (.aload_n 0, 1) := by decide +kernel
theorem dn_175_5 : decode (mth 175).2.1 5 = .ok (.sipush (361), 3) := by decide +kernel
theorem dn_175_8 : decode (mth 175).2.1 8 = .ok (.newarray .int, 2) := by decide +kernel
theorem dn_175_10 : decode (mth 175).2.1 10 = .ok (.putfield 7, 3) := by decide +kernel
theorem dn_175_13 : decode (mth 175).2.1 13 = .ok (.aload_n 0, 1) := by decide +kernel
theorem dn_175_14 : decode (mth 175).2.1 14 = .ok (.sipush (361), 3) := by decide +kernel
theorem dn_175_17 : decode (mth 175).2.1 17 = .ok (.newarray .int, 2) := by decide +kernel
theorem dn_175_19 : decode (mth 175).2.1 19 = .ok (.putfield 13, 3) := by decide +kernel
theorem dn_175_22 : decode (mth 175).2.1 22 = .ok (.aload_n 0, 1) := by decide +kernel
theorem dn_175_23 : decode (mth 175).2.1 23 = .ok (.sipush (390), 3) := by decide +kernel
theorem dn_175_26 : decode (mth 175).2.1 26 = .ok (.newarray .int, 2) := by decide +kernel
theorem dn_175_28 : decode (mth 175).2.1 28 = .ok (.putfield 16, 3) := by decide +kernel
theorem dn_175_31 : decode (mth 175).2.1 31 = .ok (.aload_n 0, 1) := by decide +kernel
theorem dn_175_32 : decode (mth 175).2.1 32 = .ok (.sipush (240), 3) := by decide +kernel
theorem dn_175_35 : decode (mth 175).2.1 35 = .ok (.newarray .int, 2) := by decide +kernel
theorem dn_175_37 : decode (mth 175).2.1 37 = .ok (.putfield 19, 3) := by decide +kernel
theorem dn_175_40 : decode (mth 175).2.1 40 = .ok (.aload_n 0, 1) := by decide +kernel
theorem dn_175_41 : decode (mth 175).2.1 41 = .ok (.sipush (200), 3) := by decide +kernel
theorem dn_175_44 : decode (mth 175).2.1 44 = .ok (.newarray .int, 2) := by decide +kernel
theorem dn_175_46 : decode (mth 175).2.1 46 = .ok (.putfield 22, 3) := by decide +kernel
theorem dn_175_49 : decode (mth 175).2.1 49 = .ok (.aload_n 0, 1) := by decide +kernel
theorem dn_175_50 : decode (mth 175).2.1 50 = .ok (.sipush (240), 3) := by decide +kernel
theorem dn_175_53 : decode (mth 175).2.1 53 = .ok (.newarray .int, 2) := by decide +kernel
theorem dn_175_55 : decode (mth 175).2.1 55 = .ok (.putfield 25, 3) := by decide +kernel
theorem dn_175_58 : decode (mth 175).2.1 58 = .ok (.aload_n 0, 1) := by decide +kernel
theorem dn_175_59 : decode (mth 175).2.1 59 = .ok (.bipush (32), 2) := by decide +kernel
theorem dn_175_61 : decode (mth 175).2.1 61 = .ok (.newarray .int, 2) := by decide +kernel
theorem dn_175_63 : decode (mth 175).2.1 63 = .ok (.putfield 28, 3) := by decide +kernel
theorem dn_175_66 : decode (mth 175).2.1 66 = .ok (.aload_n 0, 1) := by decide +kernel
theorem dn_175_67 : decode (mth 175).2.1 67 = .ok (.iconst (4), 1) := by decide +kernel
theorem dn_175_68 : decode (mth 175).2.1 68 = .ok (.newarray .int, 2) := by decide +kernel
theorem dn_175_70 : decode (mth 175).2.1 70 = .ok (.putfield 31, 3) := by decide +kernel
theorem dn_175_73 : decode (mth 175).2.1 73 = .ok (.aload_n 0, 1) := by decide +kernel
theorem dn_175_74 : decode (mth 175).2.1 74 = .ok (.bipush (12), 2) := by decide +kernel
theorem dn_175_76 : decode (mth 175).2.1 76 = .ok (.newarray .int, 2) := by decide +kernel
theorem dn_175_78 : decode (mth 175).2.1 78 = .ok (.putfield 34, 3) := by decide +kernel
theorem dn_175_81 : decode (mth 175).2.1 81 = .ok (.aload_n 0, 1) := by decide +kernel
theorem dn_175_82 : decode (mth 175).2.1 82 = .ok (.iconst (4), 1) := by decide +kernel
theorem dn_175_83 : decode (mth 175).2.1 83 = .ok (.newarray .int, 2) := by decide +kernel
theorem dn_175_85 : decode (mth 175).2.1 85 = .ok (.putfield 37, 3) := by decide +kernel
theorem dn_175_88 : decode (mth 175).2.1 88 = .ok (.aload_n 0, 1) := by decide +kernel
theorem dn_175_89 : decode (mth 175).2.1 89 = .ok (.iconst (4), 1) := by decide +kernel
theorem dn_175_90 : decode (mth 175).2.1 90 = .ok (.newarray .int, 2) := by decide +kernel
theorem dn_175_92 : decode (mth 175).2.1 92 = .ok (.putfield 40, 3) := by decide +kernel
theorem dn_175_95 : decode (mth 175).2.1 95 = .ok (.aload_n 0, 1) := by decide +kernel
theorem dn_175_96 : decode (mth 175).2.1 96 = .ok (.sipush (160), 3) := by decide +kernel
theorem dn_175_99 : decode (mth 175).2.1 99 = .ok (.newarray .int, 2) := by decide +kernel
theorem dn_175_101 : decode (mth 175).2.1 101 = .ok (.putfield 43, 3) := by decide +kernel
theorem dn_175_104 : decode (mth 175).2.1 104 = .ok (.aload_n 0, 1) := by decide +kernel
theorem dn_175_105 : decode (mth 175).2.1 105 = .ok (.iconst (4), 1) := by decide +kernel
theorem dn_175_106 : decode (mth 175).2.1 106 = .ok (.newarray .int, 2) := by decide +kernel
theorem dn_175_108 : decode (mth 175).2.1 108 = .ok (.putfield 46, 3) := by decide +kernel
theorem dn_175_111 : decode (mth 175).2.1 111 = .ok (.aload_n 0, 1) := by decide +kernel
theorem dn_175_112 : decode (mth 175).2.1 112 = .ok (.iconst (4), 1) := by decide +kernel
theorem dn_175_113 : decode (mth 175).2.1 113 = .ok (.newarray .int, 2) := by decide +kernel
theorem dn_175_115 : decode (mth 175).2.1 115 = .ok (.putfield 49, 3) := by decide +kernel
theorem dn_175_118 : decode (mth 175).2.1 118 = .ok (.aload_n 0, 1) := by decide +kernel
theorem dn_175_119 : decode (mth 175).2.1 119 = .ok (.iconst (4), 1) := by decide +kernel
theorem dn_175_120 : decode (mth 175).2.1 120 = .ok (.newarray .int, 2) := by decide +kernel
theorem dn_175_122 : decode (mth 175).2.1 122 = .ok (.putfield 52, 3) := by decide +kernel
theorem dn_175_125 : decode (mth 175).2.1 125 = .ok (.aload_n 0, 1) := by decide +kernel
theorem dn_175_126 : decode (mth 175).2.1 126 = .ok (.bipush (30), 2) := by decide +kernel
theorem dn_175_128 : decode (mth 175).2.1 128 = .ok (.newarray .int, 2) := by decide +kernel
theorem dn_175_130 : decode (mth 175).2.1 130 = .ok (.putfield 55, 3) := by decide +kernel
theorem dn_175_133 : decode (mth 175).2.1 133 = .ok (.aload_n 0, 1) := by decide +kernel
theorem dn_175_134 : decode (mth 175).2.1 134 = .ok (.getfield 7, 3) := by decide +kernel
theorem dn_175_137 : decode (mth 175).2.1 137 = .ok (.iconst (2), 1) := by decide +kernel
theorem dn_175_138 : decode (mth 175).2.1 138 = .ok (.bipush (12), 2) := by decide +kernel
theorem dn_175_140 : decode (mth 175).2.1 140 = .ok (.iastore, 1) := by decide +kernel
theorem dn_175_141 : decode (mth 175).2.1 141 = .ok (.aload_n 0, 1) := by decide +kernel
theorem dn_175_142 : decode (mth 175).2.1 142 = .ok (.getfield 7, 3) := by decide +kernel
theorem dn_175_145 : decode (mth 175).2.1 145 = .ok (.iconst (4), 1) := by decide +kernel
theorem dn_175_146 : decode (mth 175).2.1 146 = .ok (.iconst (1), 1) := by decide +kernel
theorem dn_175_147 : decode (mth 175).2.1 147 = .ok (.iastore, 1) := by decide +kernel
theorem dn_175_148 : decode (mth 175).2.1 148 = .ok (.iconst (0), 1) := by decide +kernel
theorem dn_175_149 : decode (mth 175).2.1 149 = .ok (.istore_n 1, 1) := by decide +kernel
theorem dn_175_150 : decode (mth 175).2.1 150 = .ok (.iload_n 1, 1) := by decide +kernel
theorem dn_175_151 : decode (mth 175).2.1 151 = .ok (.bipush (16), 2) := by decide +kernel
theorem dn_175_153 : decode (mth 175).2.1 153 = .ok (.if_icmp .ge 20, 3) := by decide +kernel
theorem dn_175_156 : decode (mth 175).2.1 156 = .ok (.aload_n 0, 1) := by decide +kernel
theorem dn_175_157 : decode (mth 175).2.1 157 = .ok (.getfield 7, 3) := by decide +kernel
theorem dn_175_160 : decode (mth 175).2.1 160 = .ok (.bipush (7), 2) := by decide +kernel
theorem dn_175_162 : decode (mth 175).2.1 162 = .ok (.iload_n 1, 1) := by decide +kernel
theorem dn_175_163 : decode (mth 175).2.1 163 = .ok (.iadd, 1) := by decide +kernel
theorem dn_175_164 : decode (mth 175).2.1 164 = .ok (.bipush (9), 2) := by decide +kernel
theorem dn_175_166 : decode (mth 175).2.1 166 = .ok (.iastore, 1) := by decide +kernel
theorem dn_175_167 : decode (mth 175).2.1 167 = .ok (.iinc 1 1, 3) := by decide +kernel
theorem dn_175_170 : decode (mth 175).2.1 170 = .ok (.goto (-20), 3) := by decide +kernel
theorem dn_175_173 : decode (mth 175).2.1 173 = .ok (.return_, 1) := by decide +kernel
def q_175_84 (h : Hp) : Hp := (wr (wr (wr (wr (wr (wr (wr (wr (wr (wr (wr (wr (wr (wr (wr (wr (wr (wr (wr (wr (wr (wr (wr (wr (wr (wr (wr (wr (wr (wr (wr (wr (wr (wr h 84 0 1) 84 1 1) 84 3 1) 84 5 1) 84 6 1) 84 14 1) 84 16 1) 84 18 1) 84 26 1) 84 28 1) 84 29 1) 84 30 1) 84 31 1) 84 32 1) 84 33 1) 84 34 1) 85 2 12) 85 4 1) 85 7 9) 85 8 9) 85 9 9) 85 10 9) 85 11 9) 85 12 9) 85 13 9) 85 14 9) 85 15 9) 85 16 9) 85 17 9) 85 18 9) 85 19 9) 85 20 9) 85 21 9) 85 22 9)
set_option maxHeartbeats 4000000 in
set_option maxRecDepth 100000 in
theorem n_175_84 (h : Hp) : CN 1 175 [.ref 84] h 85 (q_175_84 h) 101 := by
  refine CN.of mo_175 rfl (Nat.le_of_ble_eq_true rfl) (by decide) (by decide) (fun X hX hq => ?_)
  show K X 1 175 0 [some (.ref 84), none] [] h 85
  refine k_aload_n dn_175_0 rfl rfl ?_
  refine k_obj dn_175_1 wd_354 wn_0 (by decide) (by decide) ?_
  refine k_aload_n dn_175_4 rfl rfl ?_
  refine k_sipush (v := 361) dn_175_5 (by decide) ?_
  refine k_newal (N := 361) (n' := 86) dn_175_8 wn_1 rfl rfl (by decide) (by rw [hX]; decide) rfl ?_
  refine k_putR (ci := 9) (k := 0) dn_175_10 wd_355 (Nat.le_of_ble_eq_true rfl) rfl rfl rfl (Or.inr rfl) rfl rfl (by decide) ?_
  refine k_aload_n dn_175_13 rfl rfl ?_
  refine k_sipush (v := 361) dn_175_14 (by decide) ?_
  refine k_newal (N := 361) (n' := 87) dn_175_17 wn_1 rfl rfl (by decide) (by rw [hX]; decide) rfl ?_
  refine k_putR (ci := 9) (k := 1) dn_175_19 wd_356 (Nat.le_of_ble_eq_true rfl) rfl rfl rfl (Or.inr rfl) rfl rfl (by decide) ?_
  refine k_aload_n dn_175_22 rfl rfl ?_
  refine k_sipush (v := 390) dn_175_23 (by decide) ?_
  refine k_newal (N := 390) (n' := 88) dn_175_26 wn_1 rfl rfl (by decide) (by rw [hX]; decide) rfl ?_
  refine k_putR (ci := 9) (k := 3) dn_175_28 wd_358 (Nat.le_of_ble_eq_true rfl) rfl rfl rfl (Or.inr rfl) rfl rfl (by decide) ?_
  refine k_aload_n dn_175_31 rfl rfl ?_
  refine k_sipush (v := 240) dn_175_32 (by decide) ?_
  refine k_newal (N := 240) (n' := 89) dn_175_35 wn_1 rfl rfl (by decide) (by rw [hX]; decide) rfl ?_
  refine k_putR (ci := 9) (k := 5) dn_175_37 wd_360 (Nat.le_of_ble_eq_true rfl) rfl rfl rfl (Or.inr rfl) rfl rfl (by decide) ?_
  refine k_aload_n dn_175_40 rfl rfl ?_
  refine k_sipush (v := 200) dn_175_41 (by decide) ?_
  refine k_newal (N := 200) (n' := 90) dn_175_44 wn_1 rfl rfl (by decide) (by rw [hX]; decide) rfl ?_
  refine k_putR (ci := 9) (k := 6) dn_175_46 wd_361 (Nat.le_of_ble_eq_true rfl) rfl rfl rfl (Or.inr rfl) rfl rfl (by decide) ?_
  refine k_aload_n dn_175_49 rfl rfl ?_
  refine k_sipush (v := 240) dn_175_50 (by decide) ?_
  refine k_newal (N := 240) (n' := 91) dn_175_53 wn_1 rfl rfl (by decide) (by rw [hX]; decide) rfl ?_
  refine k_putR (ci := 9) (k := 14) dn_175_55 wd_369 (Nat.le_of_ble_eq_true rfl) rfl rfl rfl (Or.inr rfl) rfl rfl (by decide) ?_
  refine k_aload_n dn_175_58 rfl rfl ?_
  refine k_bipush (v := 32) dn_175_59 (by decide) ?_
  refine k_newal (N := 32) (n' := 92) dn_175_61 wn_1 rfl rfl (by decide) (by rw [hX]; decide) rfl ?_
  refine k_putR (ci := 9) (k := 16) dn_175_63 wd_371 (Nat.le_of_ble_eq_true rfl) rfl rfl rfl (Or.inr rfl) rfl rfl (by decide) ?_
  refine k_aload_n dn_175_66 rfl rfl ?_
  refine k_iconst (v := 4) dn_175_67 rfl ?_
  refine k_newal (N := 4) (n' := 93) dn_175_68 wn_1 rfl rfl (by decide) (by rw [hX]; decide) rfl ?_
  refine k_putR (ci := 9) (k := 18) dn_175_70 wd_373 (Nat.le_of_ble_eq_true rfl) rfl rfl rfl (Or.inr rfl) rfl rfl (by decide) ?_
  refine k_aload_n dn_175_73 rfl rfl ?_
  refine k_bipush (v := 12) dn_175_74 (by decide) ?_
  refine k_newal (N := 12) (n' := 94) dn_175_76 wn_1 rfl rfl (by decide) (by rw [hX]; decide) rfl ?_
  refine k_putR (ci := 9) (k := 26) dn_175_78 wd_381 (Nat.le_of_ble_eq_true rfl) rfl rfl rfl (Or.inr rfl) rfl rfl (by decide) ?_
  refine k_aload_n dn_175_81 rfl rfl ?_
  refine k_iconst (v := 4) dn_175_82 rfl ?_
  refine k_newal (N := 4) (n' := 95) dn_175_83 wn_1 rfl rfl (by decide) (by rw [hX]; decide) rfl ?_
  refine k_putR (ci := 9) (k := 28) dn_175_85 wd_383 (Nat.le_of_ble_eq_true rfl) rfl rfl rfl (Or.inr rfl) rfl rfl (by decide) ?_
  refine k_aload_n dn_175_88 rfl rfl ?_
  refine k_iconst (v := 4) dn_175_89 rfl ?_
  refine k_newal (N := 4) (n' := 96) dn_175_90 wn_1 rfl rfl (by decide) (by rw [hX]; decide) rfl ?_
  refine k_putR (ci := 9) (k := 29) dn_175_92 wd_384 (Nat.le_of_ble_eq_true rfl) rfl rfl rfl (Or.inr rfl) rfl rfl (by decide) ?_
  refine k_aload_n dn_175_95 rfl rfl ?_
  refine k_sipush (v := 160) dn_175_96 (by decide) ?_
  refine k_newal (N := 160) (n' := 97) dn_175_99 wn_1 rfl rfl (by decide) (by rw [hX]; decide) rfl ?_
  refine k_putR (ci := 9) (k := 30) dn_175_101 wd_385 (Nat.le_of_ble_eq_true rfl) rfl rfl rfl (Or.inr rfl) rfl rfl (by decide) ?_
  refine k_aload_n dn_175_104 rfl rfl ?_
  refine k_iconst (v := 4) dn_175_105 rfl ?_
  refine k_newal (N := 4) (n' := 98) dn_175_106 wn_1 rfl rfl (by decide) (by rw [hX]; decide) rfl ?_
  refine k_putR (ci := 9) (k := 31) dn_175_108 wd_386 (Nat.le_of_ble_eq_true rfl) rfl rfl rfl (Or.inr rfl) rfl rfl (by decide) ?_
  refine k_aload_n dn_175_111 rfl rfl ?_
  refine k_iconst (v := 4) dn_175_112 rfl ?_
  refine k_newal (N := 4) (n' := 99) dn_175_113 wn_1 rfl rfl (by decide) (by rw [hX]; decide) rfl ?_
  refine k_putR (ci := 9) (k := 32) dn_175_115 wd_387 (Nat.le_of_ble_eq_true rfl) rfl rfl rfl (Or.inr rfl) rfl rfl (by decide) ?_
  refine k_aload_n dn_175_118 rfl rfl ?_
  refine k_iconst (v := 4) dn_175_119 rfl ?_
  refine k_newal (N := 4) (n' := 100) dn_175_120 wn_1 rfl rfl (by decide) (by rw [hX]; decide) rfl ?_
  refine k_putR (ci := 9) (k := 33) dn_175_122 wd_388 (Nat.le_of_ble_eq_true rfl) rfl rfl rfl (Or.inr rfl) rfl rfl (by decide) ?_
  refine k_aload_n dn_175_125 rfl rfl ?_
  refine k_bipush (v := 30) dn_175_126 (by decide) ?_
  refine k_newal (N := 30) (n' := 101) dn_175_128 wn_1 rfl rfl (by decide) (by rw [hX]; decide) rfl ?_
  refine k_putR (ci := 9) (k := 34) dn_175_130 wd_389 (Nat.le_of_ble_eq_true rfl) rfl rfl rfl (Or.inr rfl) rfl rfl (by decide) ?_
  refine k_aload_n dn_175_133 rfl rfl ?_
  refine k_getR (ci := 9) (k := 0) (b := 85) dn_175_134 wd_355 (Nat.le_of_ble_eq_true rfl) rfl (Or.inr rfl) rfl rfl (by simp [wr, wr]) ?_
  refine k_iconst (v := 2) dn_175_137 rfl ?_
  refine k_bipush (v := 12) dn_175_138 (by decide) ?_
  refine k_iast (N := 361) (j := 2) dn_175_140 rfl rfl (by decide) (by decide) ?_
  refine k_aload_n dn_175_141 rfl rfl ?_
  refine k_getR (ci := 9) (k := 0) (b := 85) dn_175_142 wd_355 (Nat.le_of_ble_eq_true rfl) rfl (Or.inr rfl) rfl rfl (by simp [wr, wr]) ?_
  refine k_iconst (v := 4) dn_175_145 rfl ?_
  refine k_iconst (v := 1) dn_175_146 rfl ?_
  refine k_iast (N := 361) (j := 4) dn_175_147 rfl rfl (by decide) (by decide) ?_
  refine k_iconst (v := 0) dn_175_148 rfl ?_
  refine k_istl (lv' := [some (.ref 84), some (.int 0)]) dn_175_149 rfl (Nat.le_of_ble_eq_true rfl) rfl rfl ?_
  refine k_iload_n dn_175_150 rfl rfl ?_
  refine k_bipush (v := 16) dn_175_151 (by decide) ?_
  refine k_icmp_ge (tgt := 173) dn_175_153 rfl (fun q => absurd q (by decide)) (fun _ => ?_)
  refine k_aload_n dn_175_156 rfl rfl ?_
  refine k_getR (ci := 9) (k := 0) (b := 85) dn_175_157 wd_355 (Nat.le_of_ble_eq_true rfl) rfl (Or.inr rfl) rfl rfl (by simp [wr, wr]) ?_
  refine k_bipush (v := 7) dn_175_160 (by decide) ?_
  refine k_iload_n dn_175_162 rfl rfl ?_
  refine k_iadd (z := 7) dn_175_163 (by decide) ?_
  refine k_bipush (v := 9) dn_175_164 (by decide) ?_
  refine k_iast (N := 361) (j := 7) dn_175_166 rfl rfl (by decide) (by decide) ?_
  refine k_iincl (w := 1) (y := 1) (lv' := [some (.ref 84), some (.int 1)]) dn_175_167 rfl (by decide) (by decide) (Nat.le_of_ble_eq_true rfl) rfl rfl ?_
  refine k_goto (tgt := 150) dn_175_170 rfl ?_
  refine k_iload_n dn_175_150 rfl rfl ?_
  refine k_bipush (v := 16) dn_175_151 (by decide) ?_
  refine k_icmp_ge (tgt := 173) dn_175_153 rfl (fun q => absurd q (by decide)) (fun _ => ?_)
  refine k_aload_n dn_175_156 rfl rfl ?_
  refine k_getR (ci := 9) (k := 0) (b := 85) dn_175_157 wd_355 (Nat.le_of_ble_eq_true rfl) rfl (Or.inr rfl) rfl rfl (by simp [wr, wr]) ?_
  refine k_bipush (v := 7) dn_175_160 (by decide) ?_
  refine k_iload_n dn_175_162 rfl rfl ?_
  refine k_iadd (z := 8) dn_175_163 (by decide) ?_
  refine k_bipush (v := 9) dn_175_164 (by decide) ?_
  refine k_iast (N := 361) (j := 8) dn_175_166 rfl rfl (by decide) (by decide) ?_
  refine k_iincl (w := 1) (y := 2) (lv' := [some (.ref 84), some (.int 2)]) dn_175_167 rfl (by decide) (by decide) (Nat.le_of_ble_eq_true rfl) rfl rfl ?_
  refine k_goto (tgt := 150) dn_175_170 rfl ?_
  refine k_iload_n dn_175_150 rfl rfl ?_
  refine k_bipush (v := 16) dn_175_151 (by decide) ?_
  refine k_icmp_ge (tgt := 173) dn_175_153 rfl (fun q => absurd q (by decide)) (fun _ => ?_)
  refine k_aload_n dn_175_156 rfl rfl ?_
  refine k_getR (ci := 9) (k := 0) (b := 85) dn_175_157 wd_355 (Nat.le_of_ble_eq_true rfl) rfl (Or.inr rfl) rfl rfl (by simp [wr, wr]) ?_
  refine k_bipush (v := 7) dn_175_160 (by decide) ?_
  refine k_iload_n dn_175_162 rfl rfl ?_
  refine k_iadd (z := 9) dn_175_163 (by decide) ?_
  refine k_bipush (v := 9) dn_175_164 (by decide) ?_
  refine k_iast (N := 361) (j := 9) dn_175_166 rfl rfl (by decide) (by decide) ?_
  refine k_iincl (w := 1) (y := 3) (lv' := [some (.ref 84), some (.int 3)]) dn_175_167 rfl (by decide) (by decide) (Nat.le_of_ble_eq_true rfl) rfl rfl ?_
  refine k_goto (tgt := 150) dn_175_170 rfl ?_
  refine k_iload_n dn_175_150 rfl rfl ?_
  refine k_bipush (v := 16) dn_175_151 (by decide) ?_
  refine k_icmp_ge (tgt := 173) dn_175_153 rfl (fun q => absurd q (by decide)) (fun _ => ?_)
  refine k_aload_n dn_175_156 rfl rfl ?_
  refine k_getR (ci := 9) (k := 0) (b := 85) dn_175_157 wd_355 (Nat.le_of_ble_eq_true rfl) rfl (Or.inr rfl) rfl rfl (by simp [wr, wr]) ?_
  refine k_bipush (v := 7) dn_175_160 (by decide) ?_
  refine k_iload_n dn_175_162 rfl rfl ?_
  refine k_iadd (z := 10) dn_175_163 (by decide) ?_
  refine k_bipush (v := 9) dn_175_164 (by decide) ?_
  refine k_iast (N := 361) (j := 10) dn_175_166 rfl rfl (by decide) (by decide) ?_
  refine k_iincl (w := 1) (y := 4) (lv' := [some (.ref 84), some (.int 4)]) dn_175_167 rfl (by decide) (by decide) (Nat.le_of_ble_eq_true rfl) rfl rfl ?_
  refine k_goto (tgt := 150) dn_175_170 rfl ?_
  refine k_iload_n dn_175_150 rfl rfl ?_
  refine k_bipush (v := 16) dn_175_151 (by decide) ?_
  refine k_icmp_ge (tgt := 173) dn_175_153 rfl (fun q => absurd q (by decide)) (fun _ => ?_)
  refine k_aload_n dn_175_156 rfl rfl ?_
  refine k_getR (ci := 9) (k := 0) (b := 85) dn_175_157 wd_355 (Nat.le_of_ble_eq_true rfl) rfl (Or.inr rfl) rfl rfl (by simp [wr, wr]) ?_
  refine k_bipush (v := 7) dn_175_160 (by decide) ?_
  refine k_iload_n dn_175_162 rfl rfl ?_
  refine k_iadd (z := 11) dn_175_163 (by decide) ?_
  refine k_bipush (v := 9) dn_175_164 (by decide) ?_
  refine k_iast (N := 361) (j := 11) dn_175_166 rfl rfl (by decide) (by decide) ?_
  refine k_iincl (w := 1) (y := 5) (lv' := [some (.ref 84), some (.int 5)]) dn_175_167 rfl (by decide) (by decide) (Nat.le_of_ble_eq_true rfl) rfl rfl ?_
  refine k_goto (tgt := 150) dn_175_170 rfl ?_
  refine k_iload_n dn_175_150 rfl rfl ?_
  refine k_bipush (v := 16) dn_175_151 (by decide) ?_
  refine k_icmp_ge (tgt := 173) dn_175_153 rfl (fun q => absurd q (by decide)) (fun _ => ?_)
  refine k_aload_n dn_175_156 rfl rfl ?_
  refine k_getR (ci := 9) (k := 0) (b := 85) dn_175_157 wd_355 (Nat.le_of_ble_eq_true rfl) rfl (Or.inr rfl) rfl rfl (by simp [wr, wr]) ?_
  refine k_bipush (v := 7) dn_175_160 (by decide) ?_
  refine k_iload_n dn_175_162 rfl rfl ?_
  refine k_iadd (z := 12) dn_175_163 (by decide) ?_
  refine k_bipush (v := 9) dn_175_164 (by decide) ?_
  refine k_iast (N := 361) (j := 12) dn_175_166 rfl rfl (by decide) (by decide) ?_
  refine k_iincl (w := 1) (y := 6) (lv' := [some (.ref 84), some (.int 6)]) dn_175_167 rfl (by decide) (by decide) (Nat.le_of_ble_eq_true rfl) rfl rfl ?_
  refine k_goto (tgt := 150) dn_175_170 rfl ?_
  refine k_iload_n dn_175_150 rfl rfl ?_
  refine k_bipush (v := 16) dn_175_151 (by decide) ?_
  refine k_icmp_ge (tgt := 173) dn_175_153 rfl (fun q => absurd q (by decide)) (fun _ => ?_)
  refine k_aload_n dn_175_156 rfl rfl ?_
  refine k_getR (ci := 9) (k := 0) (b := 85) dn_175_157 wd_355 (Nat.le_of_ble_eq_true rfl) rfl (Or.inr rfl) rfl rfl (by simp [wr, wr]) ?_
  refine k_bipush (v := 7) dn_175_160 (by decide) ?_
  refine k_iload_n dn_175_162 rfl rfl ?_
  refine k_iadd (z := 13) dn_175_163 (by decide) ?_
  refine k_bipush (v := 9) dn_175_164 (by decide) ?_
  refine k_iast (N := 361) (j := 13) dn_175_166 rfl rfl (by decide) (by decide) ?_
  refine k_iincl (w := 1) (y := 7) (lv' := [some (.ref 84), some (.int 7)]) dn_175_167 rfl (by decide) (by decide) (Nat.le_of_ble_eq_true rfl) rfl rfl ?_
  refine k_goto (tgt := 150) dn_175_170 rfl ?_
  refine k_iload_n dn_175_150 rfl rfl ?_
  refine k_bipush (v := 16) dn_175_151 (by decide) ?_
  refine k_icmp_ge (tgt := 173) dn_175_153 rfl (fun q => absurd q (by decide)) (fun _ => ?_)
  refine k_aload_n dn_175_156 rfl rfl ?_
  refine k_getR (ci := 9) (k := 0) (b := 85) dn_175_157 wd_355 (Nat.le_of_ble_eq_true rfl) rfl (Or.inr rfl) rfl rfl (by simp [wr, wr]) ?_
  refine k_bipush (v := 7) dn_175_160 (by decide) ?_
  refine k_iload_n dn_175_162 rfl rfl ?_
  refine k_iadd (z := 14) dn_175_163 (by decide) ?_
  refine k_bipush (v := 9) dn_175_164 (by decide) ?_
  refine k_iast (N := 361) (j := 14) dn_175_166 rfl rfl (by decide) (by decide) ?_
  refine k_iincl (w := 1) (y := 8) (lv' := [some (.ref 84), some (.int 8)]) dn_175_167 rfl (by decide) (by decide) (Nat.le_of_ble_eq_true rfl) rfl rfl ?_
  refine k_goto (tgt := 150) dn_175_170 rfl ?_
  refine k_iload_n dn_175_150 rfl rfl ?_
  refine k_bipush (v := 16) dn_175_151 (by decide) ?_
  refine k_icmp_ge (tgt := 173) dn_175_153 rfl (fun q => absurd q (by decide)) (fun _ => ?_)
  refine k_aload_n dn_175_156 rfl rfl ?_
  refine k_getR (ci := 9) (k := 0) (b := 85) dn_175_157 wd_355 (Nat.le_of_ble_eq_true rfl) rfl (Or.inr rfl) rfl rfl (by simp [wr, wr]) ?_
  refine k_bipush (v := 7) dn_175_160 (by decide) ?_
  refine k_iload_n dn_175_162 rfl rfl ?_
  refine k_iadd (z := 15) dn_175_163 (by decide) ?_
  refine k_bipush (v := 9) dn_175_164 (by decide) ?_
  refine k_iast (N := 361) (j := 15) dn_175_166 rfl rfl (by decide) (by decide) ?_
  refine k_iincl (w := 1) (y := 9) (lv' := [some (.ref 84), some (.int 9)]) dn_175_167 rfl (by decide) (by decide) (Nat.le_of_ble_eq_true rfl) rfl rfl ?_
  refine k_goto (tgt := 150) dn_175_170 rfl ?_
  refine k_iload_n dn_175_150 rfl rfl ?_
  refine k_bipush (v := 16) dn_175_151 (by decide) ?_
  refine k_icmp_ge (tgt := 173) dn_175_153 rfl (fun q => absurd q (by decide)) (fun _ => ?_)
  refine k_aload_n dn_175_156 rfl rfl ?_
  refine k_getR (ci := 9) (k := 0) (b := 85) dn_175_157 wd_355 (Nat.le_of_ble_eq_true rfl) rfl (Or.inr rfl) rfl rfl (by simp [wr, wr]) ?_
  refine k_bipush (v := 7) dn_175_160 (by decide) ?_
  refine k_iload_n dn_175_162 rfl rfl ?_
  refine k_iadd (z := 16) dn_175_163 (by decide) ?_
  refine k_bipush (v := 9) dn_175_164 (by decide) ?_
  refine k_iast (N := 361) (j := 16) dn_175_166 rfl rfl (by decide) (by decide) ?_
  refine k_iincl (w := 1) (y := 10) (lv' := [some (.ref 84), some (.int 10)]) dn_175_167 rfl (by decide) (by decide) (Nat.le_of_ble_eq_true rfl) rfl rfl ?_
  refine k_goto (tgt := 150) dn_175_170 rfl ?_
  refine k_iload_n dn_175_150 rfl rfl ?_
  refine k_bipush (v := 16) dn_175_151 (by decide) ?_
  refine k_icmp_ge (tgt := 173) dn_175_153 rfl (fun q => absurd q (by decide)) (fun _ => ?_)
  refine k_aload_n dn_175_156 rfl rfl ?_
  refine k_getR (ci := 9) (k := 0) (b := 85) dn_175_157 wd_355 (Nat.le_of_ble_eq_true rfl) rfl (Or.inr rfl) rfl rfl (by simp [wr, wr]) ?_
  refine k_bipush (v := 7) dn_175_160 (by decide) ?_
  refine k_iload_n dn_175_162 rfl rfl ?_
  refine k_iadd (z := 17) dn_175_163 (by decide) ?_
  refine k_bipush (v := 9) dn_175_164 (by decide) ?_
  refine k_iast (N := 361) (j := 17) dn_175_166 rfl rfl (by decide) (by decide) ?_
  refine k_iincl (w := 1) (y := 11) (lv' := [some (.ref 84), some (.int 11)]) dn_175_167 rfl (by decide) (by decide) (Nat.le_of_ble_eq_true rfl) rfl rfl ?_
  refine k_goto (tgt := 150) dn_175_170 rfl ?_
  refine k_iload_n dn_175_150 rfl rfl ?_
  refine k_bipush (v := 16) dn_175_151 (by decide) ?_
  refine k_icmp_ge (tgt := 173) dn_175_153 rfl (fun q => absurd q (by decide)) (fun _ => ?_)
  refine k_aload_n dn_175_156 rfl rfl ?_
  refine k_getR (ci := 9) (k := 0) (b := 85) dn_175_157 wd_355 (Nat.le_of_ble_eq_true rfl) rfl (Or.inr rfl) rfl rfl (by simp [wr, wr]) ?_
  refine k_bipush (v := 7) dn_175_160 (by decide) ?_
  refine k_iload_n dn_175_162 rfl rfl ?_
  refine k_iadd (z := 18) dn_175_163 (by decide) ?_
  refine k_bipush (v := 9) dn_175_164 (by decide) ?_
  refine k_iast (N := 361) (j := 18) dn_175_166 rfl rfl (by decide) (by decide) ?_
  refine k_iincl (w := 1) (y := 12) (lv' := [some (.ref 84), some (.int 12)]) dn_175_167 rfl (by decide) (by decide) (Nat.le_of_ble_eq_true rfl) rfl rfl ?_
  refine k_goto (tgt := 150) dn_175_170 rfl ?_
  refine k_iload_n dn_175_150 rfl rfl ?_
  refine k_bipush (v := 16) dn_175_151 (by decide) ?_
  refine k_icmp_ge (tgt := 173) dn_175_153 rfl (fun q => absurd q (by decide)) (fun _ => ?_)
  refine k_aload_n dn_175_156 rfl rfl ?_
  refine k_getR (ci := 9) (k := 0) (b := 85) dn_175_157 wd_355 (Nat.le_of_ble_eq_true rfl) rfl (Or.inr rfl) rfl rfl (by simp [wr, wr]) ?_
  refine k_bipush (v := 7) dn_175_160 (by decide) ?_
  refine k_iload_n dn_175_162 rfl rfl ?_
  refine k_iadd (z := 19) dn_175_163 (by decide) ?_
  refine k_bipush (v := 9) dn_175_164 (by decide) ?_
  refine k_iast (N := 361) (j := 19) dn_175_166 rfl rfl (by decide) (by decide) ?_
  refine k_iincl (w := 1) (y := 13) (lv' := [some (.ref 84), some (.int 13)]) dn_175_167 rfl (by decide) (by decide) (Nat.le_of_ble_eq_true rfl) rfl rfl ?_
  refine k_goto (tgt := 150) dn_175_170 rfl ?_
  refine k_iload_n dn_175_150 rfl rfl ?_
  refine k_bipush (v := 16) dn_175_151 (by decide) ?_
  refine k_icmp_ge (tgt := 173) dn_175_153 rfl (fun q => absurd q (by decide)) (fun _ => ?_)
  refine k_aload_n dn_175_156 rfl rfl ?_
  refine k_getR (ci := 9) (k := 0) (b := 85) dn_175_157 wd_355 (Nat.le_of_ble_eq_true rfl) rfl (Or.inr rfl) rfl rfl (by simp [wr, wr]) ?_
  refine k_bipush (v := 7) dn_175_160 (by decide) ?_
  refine k_iload_n dn_175_162 rfl rfl ?_
  refine k_iadd (z := 20) dn_175_163 (by decide) ?_
  refine k_bipush (v := 9) dn_175_164 (by decide) ?_
  refine k_iast (N := 361) (j := 20) dn_175_166 rfl rfl (by decide) (by decide) ?_
  refine k_iincl (w := 1) (y := 14) (lv' := [some (.ref 84), some (.int 14)]) dn_175_167 rfl (by decide) (by decide) (Nat.le_of_ble_eq_true rfl) rfl rfl ?_
  refine k_goto (tgt := 150) dn_175_170 rfl ?_
  refine k_iload_n dn_175_150 rfl rfl ?_
  refine k_bipush (v := 16) dn_175_151 (by decide) ?_
  refine k_icmp_ge (tgt := 173) dn_175_153 rfl (fun q => absurd q (by decide)) (fun _ => ?_)
  refine k_aload_n dn_175_156 rfl rfl ?_
  refine k_getR (ci := 9) (k := 0) (b := 85) dn_175_157 wd_355 (Nat.le_of_ble_eq_true rfl) rfl (Or.inr rfl) rfl rfl (by simp [wr, wr]) ?_
  refine k_bipush (v := 7) dn_175_160 (by decide) ?_
  refine k_iload_n dn_175_162 rfl rfl ?_
  refine k_iadd (z := 21) dn_175_163 (by decide) ?_
  refine k_bipush (v := 9) dn_175_164 (by decide) ?_
  refine k_iast (N := 361) (j := 21) dn_175_166 rfl rfl (by decide) (by decide) ?_
  refine k_iincl (w := 1) (y := 15) (lv' := [some (.ref 84), some (.int 15)]) dn_175_167 rfl (by decide) (by decide) (Nat.le_of_ble_eq_true rfl) rfl rfl ?_
  refine k_goto (tgt := 150) dn_175_170 rfl ?_
  refine k_iload_n dn_175_150 rfl rfl ?_
  refine k_bipush (v := 16) dn_175_151 (by decide) ?_
  refine k_icmp_ge (tgt := 173) dn_175_153 rfl (fun q => absurd q (by decide)) (fun _ => ?_)
  refine k_aload_n dn_175_156 rfl rfl ?_
  refine k_getR (ci := 9) (k := 0) (b := 85) dn_175_157 wd_355 (Nat.le_of_ble_eq_true rfl) rfl (Or.inr rfl) rfl rfl (by simp [wr, wr]) ?_
  refine k_bipush (v := 7) dn_175_160 (by decide) ?_
  refine k_iload_n dn_175_162 rfl rfl ?_
  refine k_iadd (z := 22) dn_175_163 (by decide) ?_
  refine k_bipush (v := 9) dn_175_164 (by decide) ?_
  refine k_iast (N := 361) (j := 22) dn_175_166 rfl rfl (by decide) (by decide) ?_
  refine k_iincl (w := 1) (y := 16) (lv' := [some (.ref 84), some (.int 16)]) dn_175_167 rfl (by decide) (by decide) (Nat.le_of_ble_eq_true rfl) rfl rfl ?_
  refine k_goto (tgt := 150) dn_175_170 rfl ?_
  refine k_iload_n dn_175_150 rfl rfl ?_
  refine k_bipush (v := 16) dn_175_151 (by decide) ?_
  refine k_icmp_ge (tgt := 173) dn_175_153 rfl (fun _ => ?_) (fun q => absurd (by decide) q)
  exact k_ret dn_175_173 hq
