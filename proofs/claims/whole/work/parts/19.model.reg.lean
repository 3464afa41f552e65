/-! 176 PlayedTruthModel.scene(IIII)I -/
theorem k_176_0 {X : GX} {d : Nat} {h : Hp} {v1 : Int32} {v2 : Int32} {v3 : Int32} {v4 : Int32} {d' : Nat} {Q' : Int32 → Hp → Prop} (hdd : d' < d) (hC : CI d' 177 [.long (Int32.toInt64 v1), .long 1, .long 5] h Q') (kk : ∀ x h', Q' x h' → G X d 176 9 [some (.ref 84), some (.int v1), some (.int v2), some (.int v3), some (.int v4), none] [.int x] h') : G X d 176 0 [some (.ref 84), some (.int v1), some (.int v2), some (.int v3), some (.int v4), none] [] h := by
  refine g_iload_n d_176_0 rfl rfl ?_
  refine g_i2l d_176_1 ?_
  refine g_lconst (v := 1) d_176_2 (by decide) ?_
  refine g_ldc2_w (v := 5) d_176_3 wd_394 ?_
  exact g_callSI (mj := 177) [.long (Int32.toInt64 v1), .long 1, .long 5] [] d_176_6 wd_395 mo_177 mc_177 mv_177 rfl rfl (Nat.le_of_ble_eq_true rfl)  hdd hC kk

theorem k_176_9 {X : GX} {d : Nat} {h : Hp} {v1 : Int32} {v2 : Int32} {v3 : Int32} {v4 : Int32} {s0 : Int32} (kt : s0 = 0 → G X d 176 49 [none, none, none, none, none, none] [] h) (kf : ¬ s0 = 0 → G X d 176 12 [some (.ref 84), some (.int v1), some (.int v2), some (.int v3), some (.int v4), none] [] h) : G X d 176 9 [some (.ref 84), some (.int v1), some (.int v2), some (.int v3), some (.int v4), none] [.int s0] h := by
  exact g_if_eq (tgt := 49) d_176_9 (by decide) (fun q => g_mask [false, false, false, false, false, false] (kt q)) kf

theorem k_176_12 {X : GX} {d : Nat} {h : Hp} {v1 : Int32} {v2 : Int32} {v3 : Int32} {v4 : Int32} {d' : Nat} {Q' : Int32 → Hp → Prop} (hdd : d' < d) (hC : CI d' 177 [.long (Int32.toInt64 v2), .long 0, .long 99] h Q') (kk : ∀ x h', Q' x h' → G X d 176 21 [some (.ref 84), some (.int v1), some (.int v2), some (.int v3), some (.int v4), none] [.int x] h') : G X d 176 12 [some (.ref 84), some (.int v1), some (.int v2), some (.int v3), some (.int v4), none] [] h := by
  refine g_iload_n d_176_12 rfl rfl ?_
  refine g_i2l d_176_13 ?_
  refine g_lconst (v := 0) d_176_14 (by decide) ?_
  refine g_ldc2_w (v := 99) d_176_15 wd_396 ?_
  exact g_callSI (mj := 177) [.long (Int32.toInt64 v2), .long 0, .long 99] [] d_176_18 wd_395 mo_177 mc_177 mv_177 rfl rfl (Nat.le_of_ble_eq_true rfl)  hdd hC kk

theorem k_176_21 {X : GX} {d : Nat} {h : Hp} {v1 : Int32} {v2 : Int32} {v3 : Int32} {v4 : Int32} {s0 : Int32} (kt : s0 = 0 → G X d 176 49 [none, none, none, none, none, none] [] h) (kf : ¬ s0 = 0 → G X d 176 24 [some (.ref 84), some (.int v1), some (.int v2), some (.int v3), some (.int v4), none] [] h) : G X d 176 21 [some (.ref 84), some (.int v1), some (.int v2), some (.int v3), some (.int v4), none] [.int s0] h := by
  exact g_if_eq (tgt := 49) d_176_21 (by decide) (fun q => g_mask [false, false, false, false, false, false] (kt q)) kf

theorem k_176_24 {X : GX} {d : Nat} {h : Hp} {v1 : Int32} {v2 : Int32} {v3 : Int32} {v4 : Int32} {d' : Nat} {Q' : Int32 → Hp → Prop} (hdd : d' < d) (hC : CI d' 177 [.long (Int32.toInt64 v3), .long 0, .long 9] h Q') (kk : ∀ x h', Q' x h' → G X d 176 33 [some (.ref 84), some (.int v1), some (.int v2), some (.int v3), some (.int v4), none] [.int x] h') : G X d 176 24 [some (.ref 84), some (.int v1), some (.int v2), some (.int v3), some (.int v4), none] [] h := by
  refine g_iload_n d_176_24 rfl rfl ?_
  refine g_i2l d_176_25 ?_
  refine g_lconst (v := 0) d_176_26 (by decide) ?_
  refine g_ldc2_w (v := 9) d_176_27 wd_397 ?_
  exact g_callSI (mj := 177) [.long (Int32.toInt64 v3), .long 0, .long 9] [] d_176_30 wd_395 mo_177 mc_177 mv_177 rfl rfl (Nat.le_of_ble_eq_true rfl)  hdd hC kk

theorem k_176_33 {X : GX} {d : Nat} {h : Hp} {v1 : Int32} {v2 : Int32} {v3 : Int32} {v4 : Int32} {s0 : Int32} (kt : s0 = 0 → G X d 176 49 [none, none, none, none, none, none] [] h) (kf : ¬ s0 = 0 → G X d 176 36 [some (.ref 84), some (.int v1), some (.int v2), some (.int v3), some (.int v4), none] [] h) : G X d 176 33 [some (.ref 84), some (.int v1), some (.int v2), some (.int v3), some (.int v4), none] [.int s0] h := by
  exact g_if_eq (tgt := 49) d_176_33 (by decide) (fun q => g_mask [false, false, false, false, false, false] (kt q)) kf

theorem k_176_36 {X : GX} {d : Nat} {h : Hp} {v1 : Int32} {v2 : Int32} {v3 : Int32} {v4 : Int32} {d' : Nat} {Q' : Int32 → Hp → Prop} (hdd : d' < d) (hC : CI d' 177 [.long (Int32.toInt64 v4), .long 0, .long 5] h Q') (kk : ∀ x h', Q' x h' → G X d 176 46 [some (.ref 84), some (.int v1), some (.int v2), some (.int v3), some (.int v4), none] [.int x] h') : G X d 176 36 [some (.ref 84), some (.int v1), some (.int v2), some (.int v3), some (.int v4), none] [] h := by
  refine g_iload d_176_36 rfl ?_
  refine g_i2l d_176_38 ?_
  refine g_lconst (v := 0) d_176_39 (by decide) ?_
  refine g_ldc2_w (v := 5) d_176_40 wd_394 ?_
  exact g_callSI (mj := 177) [.long (Int32.toInt64 v4), .long 0, .long 5] [] d_176_43 wd_395 mo_177 mc_177 mv_177 rfl rfl (Nat.le_of_ble_eq_true rfl)  hdd hC kk

theorem k_176_46 {X : GX} {d : Nat} {h : Hp} {v1 : Int32} {v2 : Int32} {v3 : Int32} {v4 : Int32} {s0 : Int32} (kt : ¬ s0 = 0 → G X d 176 51 [some (.ref 84), some (.int v1), some (.int v2), some (.int v3), some (.int v4), none] [] h) (kf : s0 = 0 → G X d 176 49 [none, none, none, none, none, none] [] h) : G X d 176 46 [some (.ref 84), some (.int v1), some (.int v2), some (.int v3), some (.int v4), none] [.int s0] h := by
  exact g_if_ne (tgt := 51) d_176_46 (by decide) kt (fun q => g_mask [false, false, false, false, false, false] (kf q))

theorem k_176_49 {X : GX} {d : Nat} {h : Hp} (hq : RtX X (some (.int ((-1)))) h) : G X d 176 49 [none, none, none, none, none, none] [] h := by
  refine g_iconst (v := (-1)) d_176_49 (by decide) ?_
  exact g_reti d_176_50 rfl hq

theorem k_176_51 {X : GX} {d : Nat} {h : Hp} {v1 : Int32} {v2 : Int32} {v3 : Int32} {v4 : Int32} (b0 : IA 85 0) (kt : ¬ (h 85 (Int32.toNatClampNeg 0)) = 6 → G X d 176 65 [some (.ref 84), some (.int v1), some (.int v2), some (.int v3), some (.int v4), none] [] h) (kf : (h 85 (Int32.toNatClampNeg 0)) = 6 → G X d 176 62 [none, none, none, none, none, none] [] h) : G X d 176 51 [some (.ref 84), some (.int v1), some (.int v2), some (.int v3), some (.int v4), none] [] h := by
  refine g_aload_n d_176_51 rfl rfl ?_
  refine g_getf (ci := 9) (k := 0) d_176_52 wd_355 (Nat.le_of_ble_eq_true rfl) rfl rfl ?_
  refine g_iconst (v := 0) d_176_55 (by decide) ?_
  refine g_iald d_176_56 b0 ?_
  refine g_bipush (v := 6) d_176_57 (by decide) ?_
  exact g_icmp_ne (tgt := 65) d_176_59 (by decide) kt (fun q => g_mask [false, false, false, false, false, false] (kf q))

theorem k_176_62 {X : GX} {d : Nat} {h : Hp} (hq : RtX X (some (.int ((-2)))) h) : G X d 176 62 [none, none, none, none, none, none] [] h := by
  refine g_bipush (v := (-2)) d_176_62 (by decide) ?_
  exact g_reti d_176_64 rfl hq

theorem k_176_65 {X : GX} {d : Nat} {h : Hp} {v1 : Int32} {v2 : Int32} {v3 : Int32} {v4 : Int32} {d' : Nat} {Q' : Hp → Prop} (b0 : IA 85 0) (hdd : d' < d) (hC : CV d' 178 [.ref 84, .int (h 85 (Int32.toNatClampNeg 0)), .int 0, .int v1] h Q') (kk : ∀ h', Q' h' → G X d 176 81 [some (.ref 84), none, some (.int v2), some (.int v3), some (.int v4), some (.int (h 85 (Int32.toNatClampNeg 0)))] [] h') : G X d 176 65 [some (.ref 84), some (.int v1), some (.int v2), some (.int v3), some (.int v4), none] [] h := by
  refine g_aload_n d_176_65 rfl rfl ?_
  refine g_getf (ci := 9) (k := 0) d_176_66 wd_355 (Nat.le_of_ble_eq_true rfl) rfl rfl ?_
  refine g_iconst (v := 0) d_176_69 (by decide) ?_
  refine g_iald d_176_70 b0 ?_
  refine g_istore d_176_71 (Nat.le_of_ble_eq_true rfl) rfl ?_
  refine g_aload_n d_176_73 rfl rfl ?_
  refine g_iload d_176_74 rfl ?_
  refine g_iconst (v := 0) d_176_76 (by decide) ?_
  refine g_iload_n d_176_77 rfl rfl ?_
  exact g_callVV (mj := 178) 9 [.int (h 85 (Int32.toNatClampNeg 0)), .int 0, .int v1] [] d_176_78 wd_398 mo_178 mc_178 mv_178 rfl rfl rfl (Nat.le_of_ble_eq_true rfl) rfl hdd hC (fun h' q => g_mask [true, false, true, true, true, true] (kk h' q))

theorem k_176_81 {X : GX} {d : Nat} {h : Hp} {v2 : Int32} {v3 : Int32} {v4 : Int32} {v5 : Int32} {d' : Nat} {Q' : Hp → Prop} (hdd : d' < d) (hC : CV d' 178 [.ref 84, .int v5, .int 1, .int v2] h Q') (kk : ∀ h', Q' h' → G X d 176 89 [some (.ref 84), none, none, some (.int v3), some (.int v4), some (.int v5)] [] h') : G X d 176 81 [some (.ref 84), none, some (.int v2), some (.int v3), some (.int v4), some (.int v5)] [] h := by
  refine g_aload_n d_176_81 rfl rfl ?_
  refine g_iload d_176_82 rfl ?_
  refine g_iconst (v := 1) d_176_84 (by decide) ?_
  refine g_iload_n d_176_85 rfl rfl ?_
  exact g_callVV (mj := 178) 9 [.int v5, .int 1, .int v2] [] d_176_86 wd_398 mo_178 mc_178 mv_178 rfl rfl rfl (Nat.le_of_ble_eq_true rfl) rfl hdd hC (fun h' q => g_mask [true, false, false, true, true, true] (kk h' q))

theorem k_176_89 {X : GX} {d : Nat} {h : Hp} {v3 : Int32} {v4 : Int32} {v5 : Int32} {d' : Nat} {Q' : Hp → Prop} (hdd : d' < d) (hC : CV d' 178 [.ref 84, .int v5, .int 2, .int v3] h Q') (kk : ∀ h', Q' h' → G X d 176 97 [some (.ref 84), none, none, none, some (.int v4), some (.int v5)] [] h') : G X d 176 89 [some (.ref 84), none, none, some (.int v3), some (.int v4), some (.int v5)] [] h := by
  refine g_aload_n d_176_89 rfl rfl ?_
  refine g_iload d_176_90 rfl ?_
  refine g_iconst (v := 2) d_176_92 (by decide) ?_
  refine g_iload_n d_176_93 rfl rfl ?_
  exact g_callVV (mj := 178) 9 [.int v5, .int 2, .int v3] [] d_176_94 wd_398 mo_178 mc_178 mv_178 rfl rfl rfl (Nat.le_of_ble_eq_true rfl) rfl hdd hC (fun h' q => g_mask [true, false, false, false, true, true] (kk h' q))

theorem k_176_97 {X : GX} {d : Nat} {h : Hp} {v4 : Int32} {v5 : Int32} {d' : Nat} {Q' : Hp → Prop} (hdd : d' < d) (hC : CV d' 178 [.ref 84, .int v5, .int 3, .int v4] h Q') (kk : ∀ h', Q' h' → G X d 176 106 [some (.ref 84), none, none, none, none, some (.int v5)] [] h') : G X d 176 97 [some (.ref 84), none, none, none, some (.int v4), some (.int v5)] [] h := by
  refine g_aload_n d_176_97 rfl rfl ?_
  refine g_iload d_176_98 rfl ?_
  refine g_iconst (v := 3) d_176_100 (by decide) ?_
  refine g_iload d_176_101 rfl ?_
  exact g_callVV (mj := 178) 9 [.int v5, .int 3, .int v4] [] d_176_103 wd_398 mo_178 mc_178 mv_178 rfl rfl rfl (Nat.le_of_ble_eq_true rfl) rfl hdd hC (fun h' q => g_mask [true, false, false, false, false, true] (kk h' q))

theorem k_176_106 {X : GX} {d : Nat} {h : Hp} {v5 : Int32} {d' : Nat} {Q' : Hp → Prop} (hdd : d' < d) (hC : CV d' 178 [.ref 84, .int v5, .int 4, .int 0] h Q') (kk : ∀ h', Q' h' → G X d 176 114 [some (.ref 84), none, none, none, none, some (.int v5)] [] h') : G X d 176 106 [some (.ref 84), none, none, none, none, some (.int v5)] [] h := by
  refine g_aload_n d_176_106 rfl rfl ?_
  refine g_iload d_176_107 rfl ?_
  refine g_iconst (v := 4) d_176_109 (by decide) ?_
  refine g_iconst (v := 0) d_176_110 (by decide) ?_
  exact g_callVV (mj := 178) 9 [.int v5, .int 4, .int 0] [] d_176_111 wd_398 mo_178 mc_178 mv_178 rfl rfl rfl (Nat.le_of_ble_eq_true rfl) rfl hdd hC kk

theorem k_176_114 {X : GX} {d : Nat} {h : Hp} {v5 : Int32} (b0 : IA 85 0) (hq : RtX X (some (.int v5)) (wr h 85 (Int32.toNatClampNeg 0) ((h 85 (Int32.toNatClampNeg 0)) + 1))) : G X d 176 114 [some (.ref 84), none, none, none, none, some (.int v5)] [] h := by
  refine g_aload_n d_176_114 rfl rfl ?_
  refine g_getf (ci := 9) (k := 0) d_176_115 wd_355 (Nat.le_of_ble_eq_true rfl) rfl rfl ?_
  refine g_iconst (v := 0) d_176_118 (by decide) ?_
  refine g_dup2 d_176_119 rfl rfl ?_
  refine g_iald d_176_120 b0 ?_
  refine g_iconst (v := 1) d_176_121 (by decide) ?_
  refine g_iadd d_176_122 ?_
  refine g_iast d_176_123 b0 ?_
  refine g_iload d_176_124 rfl ?_
  exact g_reti d_176_126 rfl hq

/-! 177 PlayedTruthModel.in(JJJ)Z -/
theorem k_177_0 {X : GX} {d : Nat} {h : Hp} {v0 : Int64} {v2 : Int64} {v4 : Int64} (kt : (lg_cmp v0 v2) < 0 → G X d 177 17 [none, none, none, none, none, none] [] h) (kf : ¬ (lg_cmp v0 v2) < 0 → G X d 177 6 [some (.long v0), none, none, none, some (.long v4), none] [] h) : G X d 177 0 [some (.long v0), none, some (.long v2), none, some (.long v4), none] [] h := by
  refine g_lload_n d_177_0 rfl rfl ?_
  refine g_lload_n d_177_1 rfl rfl ?_
  refine g_lcmp d_177_2 ?_
  exact g_if_lt (tgt := 17) d_177_3 (by decide) (fun q => g_mask [false, false, false, false, false, false] (kt q)) (fun q => g_mask [true, false, false, false, true, false] (kf q))

theorem k_177_6 {X : GX} {d : Nat} {h : Hp} {v0 : Int64} {v4 : Int64} (kt : 0 < (lg_cmp v0 v4) → G X d 177 17 [none, none, none, none, none, none] [] h) (kf : ¬ 0 < (lg_cmp v0 v4) → G X d 177 13 [none, none, none, none, none, none] [] h) : G X d 177 6 [some (.long v0), none, none, none, some (.long v4), none] [] h := by
  refine g_lload_n d_177_6 rfl rfl ?_
  refine g_lload d_177_7 rfl ?_
  refine g_lcmp d_177_9 ?_
  exact g_if_gt (tgt := 17) d_177_10 (by decide) (fun q => g_mask [false, false, false, false, false, false] (kt q)) (fun q => g_mask [false, false, false, false, false, false] (kf q))

theorem k_177_13 {X : GX} {d : Nat} {h : Hp} (hq : RtX X (some (.int 1)) h) : G X d 177 13 [none, none, none, none, none, none] [] h := by
  refine g_iconst (v := 1) d_177_13 (by decide) ?_
  refine g_goto (tgt := 18) d_177_14 (by decide) ?_
  exact g_retz d_177_18 rfl z01_1 hq

theorem k_177_17 {X : GX} {d : Nat} {h : Hp} (hq : RtX X (some (.int 0)) h) : G X d 177 17 [none, none, none, none, none, none] [] h := by
  refine g_iconst (v := 0) d_177_17 (by decide) ?_
  exact g_retz d_177_18 rfl z01_0 hq

/-! 178 PlayedTruthModel.sets(III)V -/
theorem k_178_0 {X : GX} {d : Nat} {h : Hp} {v1 : Int32} {v2 : Int32} {v3 : Int32} (b0 : IA 85 ((35 + (5 * v1)) + v2)) (hq : RtX X none (wr h 85 (Int32.toNatClampNeg ((35 + (5 * v1)) + v2)) v3)) : G X d 178 0 [some (.ref 84), some (.int v1), some (.int v2), some (.int v3)] [] h := by
  refine g_aload_n d_178_0 rfl rfl ?_
  refine g_getf (ci := 9) (k := 0) d_178_1 wd_355 (Nat.le_of_ble_eq_true rfl) rfl rfl ?_
  refine g_bipush (v := 35) d_178_4 (by decide) ?_
  refine g_iconst (v := 5) d_178_6 (by decide) ?_
  refine g_iload_n d_178_7 rfl rfl ?_
  refine g_imul d_178_8 ?_
  refine g_iadd d_178_9 ?_
  refine g_iload_n d_178_10 rfl rfl ?_
  refine g_iadd d_178_11 ?_
  refine g_iload_n d_178_12 rfl rfl ?_
  refine g_iast d_178_13 b0 ?_
  exact g_retv d_178_14 rfl hq

/-! 179 PlayedTruthModel.sceneOf(II)I -/
theorem k_179_0 {X : GX} {d : Nat} {h : Hp} {v1 : Int32} {v2 : Int32} {d' : Nat} {Q' : Int32 → Hp → Prop} (hdd : d' < d) (hC : CI d' 180 [.ref 84, .int v1] h Q') (kk : ∀ x h', Q' x h' → G X d 179 5 [some (.ref 84), some (.int v1), some (.int v2)] [.int x] h') : G X d 179 0 [some (.ref 84), some (.int v1), some (.int v2)] [] h := by
  refine g_aload_n d_179_0 rfl rfl ?_
  refine g_iload_n d_179_1 rfl rfl ?_
  exact g_callVI (mj := 180) 9 [.int v1] [] d_179_2 wd_400 mo_180 mc_180 mv_180 rfl rfl rfl (Nat.le_of_ble_eq_true rfl) rfl hdd hC kk

theorem k_179_5 {X : GX} {d : Nat} {h : Hp} {v1 : Int32} {v2 : Int32} {s0 : Int32} (kt : s0 = 0 → G X d 179 20 [none, none, none] [] h) (kf : ¬ s0 = 0 → G X d 179 8 [some (.ref 84), some (.int v1), some (.int v2)] [] h) : G X d 179 5 [some (.ref 84), some (.int v1), some (.int v2)] [.int s0] h := by
  exact g_if_eq (tgt := 20) d_179_5 (by decide) (fun q => g_mask [false, false, false] (kt q)) kf

theorem k_179_8 {X : GX} {d : Nat} {h : Hp} {v1 : Int32} {v2 : Int32} {d' : Nat} {Q' : Int32 → Hp → Prop} (hdd : d' < d) (hC : CI d' 177 [.long (Int32.toInt64 v2), .long 0, .long 9] h Q') (kk : ∀ x h', Q' x h' → G X d 179 17 [some (.ref 84), some (.int v1), some (.int v2)] [.int x] h') : G X d 179 8 [some (.ref 84), some (.int v1), some (.int v2)] [] h := by
  refine g_iload_n d_179_8 rfl rfl ?_
  refine g_i2l d_179_9 ?_
  refine g_lconst (v := 0) d_179_10 (by decide) ?_
  refine g_ldc2_w (v := 9) d_179_11 wd_397 ?_
  exact g_callSI (mj := 177) [.long (Int32.toInt64 v2), .long 0, .long 9] [] d_179_14 wd_395 mo_177 mc_177 mv_177 rfl rfl (Nat.le_of_ble_eq_true rfl)  hdd hC kk

theorem k_179_17 {X : GX} {d : Nat} {h : Hp} {v1 : Int32} {v2 : Int32} {s0 : Int32} (kt : ¬ s0 = 0 → G X d 179 22 [some (.ref 84), some (.int v1), some (.int v2)] [] h) (kf : s0 = 0 → G X d 179 20 [none, none, none] [] h) : G X d 179 17 [some (.ref 84), some (.int v1), some (.int v2)] [.int s0] h := by
  exact g_if_ne (tgt := 22) d_179_17 (by decide) kt (fun q => g_mask [false, false, false] (kf q))

theorem k_179_20 {X : GX} {d : Nat} {h : Hp} (hq : RtX X (some (.int ((-1)))) h) : G X d 179 20 [none, none, none] [] h := by
  refine g_iconst (v := (-1)) d_179_20 (by decide) ?_
  exact g_reti d_179_21 rfl hq

theorem k_179_22 {X : GX} {d : Nat} {h : Hp} {v1 : Int32} {v2 : Int32} (k0 : v2 = 5 → G X d 179 56 [some (.ref 84), some (.int v1), none] [] h) (k1 : v2 = 6 → G X d 179 62 [some (.ref 84), some (.int v1), none] [] h) (k2 : v2 = 7 → G X d 179 68 [some (.ref 84), some (.int v1), none] [] h) (k3 : v2 = 8 → G X d 179 74 [some (.ref 84), some (.int v1), none] [] h) (k4 : v2 = 9 → G X d 179 88 [some (.ref 84), some (.int v1), none] [] h) (kd : ¬ v2 = 5 → ¬ v2 = 6 → ¬ v2 = 7 → ¬ v2 = 8 → ¬ v2 = 9 → G X d 179 94 [some (.ref 84), some (.int v1), some (.int v2)] [] h) : G X d 179 22 [some (.ref 84), some (.int v1), some (.int v2)] [] h := by
  refine g_iload_n d_179_22 rfl rfl ?_
  exact g_table (tls := [(5, 56), (6, 62), (7, 68), (8, 74), (9, 88)]) (df := 94) d_179_23 (by decide +kernel) ⟨fun q => g_mask [true, true, false] (k0 q), fun n0 => ⟨fun q => g_mask [true, true, false] (k1 q), fun n1 => ⟨fun q => g_mask [true, true, false] (k2 q), fun n2 => ⟨fun q => g_mask [true, true, false] (k3 q), fun n3 => ⟨fun q => g_mask [true, true, false] (k4 q), fun n4 => (kd n0 n1 n2 n3 n4)⟩⟩⟩⟩⟩

theorem k_179_56 {X : GX} {d : Nat} {h : Hp} {v1 : Int32} {d' : Nat} {Q' : Int32 → Hp → Prop} (hdd : d' < d) (hC : CI d' 181 [.ref 84, .int v1] h Q') (kk : ∀ x h', Q' x h' → G X d 179 61 [none, none, none] [.int x] h') : G X d 179 56 [some (.ref 84), some (.int v1), none] [] h := by
  refine g_aload_n d_179_56 rfl rfl ?_
  refine g_iload_n d_179_57 rfl rfl ?_
  exact g_callVI (mj := 181) 9 [.int v1] [] d_179_58 wd_401 mo_181 mc_181 mv_181 rfl rfl rfl (Nat.le_of_ble_eq_true rfl) rfl hdd hC (fun x h' q => g_mask [false, false, false] (kk x h' q))

theorem k_179_61 {X : GX} {d : Nat} {h : Hp} {s0 : Int32} (hq : RtX X (some (.int s0)) h) : G X d 179 61 [none, none, none] [.int s0] h := by
  exact g_reti d_179_61 rfl hq

theorem k_179_62 {X : GX} {d : Nat} {h : Hp} {v1 : Int32} {d' : Nat} {Q' : Int32 → Hp → Prop} (hdd : d' < d) (hC : CI d' 188 [.ref 84, .int v1] h Q') (kk : ∀ x h', Q' x h' → G X d 179 67 [none, none, none] [.int x] h') : G X d 179 62 [some (.ref 84), some (.int v1), none] [] h := by
  refine g_aload_n d_179_62 rfl rfl ?_
  refine g_iload_n d_179_63 rfl rfl ?_
  exact g_callVI (mj := 188) 9 [.int v1] [] d_179_64 wd_408 mo_188 mc_188 mv_188 rfl rfl rfl (Nat.le_of_ble_eq_true rfl) rfl hdd hC (fun x h' q => g_mask [false, false, false] (kk x h' q))

theorem k_179_67 {X : GX} {d : Nat} {h : Hp} {s0 : Int32} (hq : RtX X (some (.int s0)) h) : G X d 179 67 [none, none, none] [.int s0] h := by
  exact g_reti d_179_67 rfl hq

theorem k_179_68 {X : GX} {d : Nat} {h : Hp} {v1 : Int32} {d' : Nat} {Q' : Int32 → Hp → Prop} (hdd : d' < d) (hC : CI d' 187 [.ref 84, .int v1] h Q') (kk : ∀ x h', Q' x h' → G X d 179 73 [none, none, none] [.int x] h') : G X d 179 68 [some (.ref 84), some (.int v1), none] [] h := by
  refine g_aload_n d_179_68 rfl rfl ?_
  refine g_iload_n d_179_69 rfl rfl ?_
  exact g_callVI (mj := 187) 9 [.int v1] [] d_179_70 wd_407 mo_187 mc_187 mv_187 rfl rfl rfl (Nat.le_of_ble_eq_true rfl) rfl hdd hC (fun x h' q => g_mask [false, false, false] (kk x h' q))

theorem k_179_73 {X : GX} {d : Nat} {h : Hp} {s0 : Int32} (hq : RtX X (some (.int s0)) h) : G X d 179 73 [none, none, none] [.int s0] h := by
  exact g_reti d_179_73 rfl hq

theorem k_179_74 {X : GX} {d : Nat} {h : Hp} {v1 : Int32} {d' : Nat} {Q' : Int32 → Hp → Prop} (hdd : d' < d) (hC : CI d' 190 [.ref 84, .int v1] h Q') (kk : ∀ x h', Q' x h' → G X d 179 79 [none, none, none] [.int x] h') : G X d 179 74 [some (.ref 84), some (.int v1), none] [] h := by
  refine g_aload_n d_179_74 rfl rfl ?_
  refine g_iload_n d_179_75 rfl rfl ?_
  exact g_callVI (mj := 190) 9 [.int v1] [] d_179_76 wd_410 mo_190 mc_190 mv_190 rfl rfl rfl (Nat.le_of_ble_eq_true rfl) rfl hdd hC (fun x h' q => g_mask [false, false, false] (kk x h' q))

theorem k_179_79 {X : GX} {d : Nat} {h : Hp} {s0 : Int32} (kt : s0 = 0 → G X d 179 86 [none, none, none] [] h) (kf : ¬ s0 = 0 → G X d 179 82 [none, none, none] [] h) : G X d 179 79 [none, none, none] [.int s0] h := by
  exact g_if_eq (tgt := 86) d_179_79 (by decide) kt kf

theorem k_179_82 {X : GX} {d : Nat} {h : Hp} (hq : RtX X (some (.int 1)) h) : G X d 179 82 [none, none, none] [] h := by
  refine g_iconst (v := 1) d_179_82 (by decide) ?_
  refine g_goto (tgt := 87) d_179_83 (by decide) ?_
  exact g_reti d_179_87 rfl hq

theorem k_179_86 {X : GX} {d : Nat} {h : Hp} (hq : RtX X (some (.int 0)) h) : G X d 179 86 [none, none, none] [] h := by
  refine g_iconst (v := 0) d_179_86 (by decide) ?_
  exact g_reti d_179_87 rfl hq

theorem k_179_88 {X : GX} {d : Nat} {h : Hp} {v1 : Int32} {d' : Nat} {Q' : Int32 → Hp → Prop} (hdd : d' < d) (hC : CI d' 191 [.ref 84, .int v1] h Q') (kk : ∀ x h', Q' x h' → G X d 179 93 [none, none, none] [.int x] h') : G X d 179 88 [some (.ref 84), some (.int v1), none] [] h := by
  refine g_aload_n d_179_88 rfl rfl ?_
  refine g_iload_n d_179_89 rfl rfl ?_
  exact g_callVI (mj := 191) 9 [.int v1] [] d_179_90 wd_411 mo_191 mc_191 mv_191 rfl rfl rfl (Nat.le_of_ble_eq_true rfl) rfl hdd hC (fun x h' q => g_mask [false, false, false] (kk x h' q))

theorem k_179_93 {X : GX} {d : Nat} {h : Hp} {s0 : Int32} (hq : RtX X (some (.int s0)) h) : G X d 179 93 [none, none, none] [.int s0] h := by
  exact g_reti d_179_93 rfl hq

theorem k_179_94 {X : GX} {d : Nat} {h : Hp} {v1 : Int32} {v2 : Int32} {d' : Nat} {Q' : Int32 → Hp → Prop} (hdd : d' < d) (hC : CI d' 182 [.ref 84, .int v1, .int v2] h Q') (kk : ∀ x h', Q' x h' → G X d 179 100 [none, none, none] [.int x] h') : G X d 179 94 [some (.ref 84), some (.int v1), some (.int v2)] [] h := by
  refine g_aload_n d_179_94 rfl rfl ?_
  refine g_iload_n d_179_95 rfl rfl ?_
  refine g_iload_n d_179_96 rfl rfl ?_
  exact g_callVI (mj := 182) 9 [.int v1, .int v2] [] d_179_97 wd_402 mo_182 mc_182 mv_182 rfl rfl rfl (Nat.le_of_ble_eq_true rfl) rfl hdd hC (fun x h' q => g_mask [false, false, false] (kk x h' q))

theorem k_179_100 {X : GX} {d : Nat} {h : Hp} {s0 : Int32} (hq : RtX X (some (.int s0)) h) : G X d 179 100 [none, none, none] [.int s0] h := by
  exact g_reti d_179_100 rfl hq

/-! 180 PlayedTruthModel.isScene(I)Z -/
theorem k_180_0 {X : GX} {d : Nat} {h : Hp} {v1 : Int32} {d' : Nat} {Q' : Int32 → Hp → Prop} (b0 : IA 85 0) (hdd : d' < d) (hC : CI d' 177 [.long (Int32.toInt64 v1), .long 0, .long (Int32.toInt64 ((h 85 (Int32.toNatClampNeg 0)) - 1))] h Q') (kk : ∀ x h', Q' x h' → G X d 180 15 [none, none] [.int x] h') : G X d 180 0 [some (.ref 84), some (.int v1)] [] h := by
  refine g_iload_n d_180_0 rfl rfl ?_
  refine g_i2l d_180_1 ?_
  refine g_lconst (v := 0) d_180_2 (by decide) ?_
  refine g_aload_n d_180_3 rfl rfl ?_
  refine g_getf (ci := 9) (k := 0) d_180_4 wd_355 (Nat.le_of_ble_eq_true rfl) rfl rfl ?_
  refine g_iconst (v := 0) d_180_7 (by decide) ?_
  refine g_iald d_180_8 b0 ?_
  refine g_iconst (v := 1) d_180_9 (by decide) ?_
  refine g_isub d_180_10 ?_
  refine g_i2l d_180_11 ?_
  exact g_callSI (mj := 177) [.long (Int32.toInt64 v1), .long 0, .long (Int32.toInt64 ((h 85 (Int32.toNatClampNeg 0)) - 1))] [] d_180_12 wd_395 mo_177 mc_177 mv_177 rfl rfl (Nat.le_of_ble_eq_true rfl)  hdd hC (fun x h' q => g_mask [false, false] (kk x h' q))

theorem k_180_15 {X : GX} {d : Nat} {h : Hp} {s0 : Int32} (z0 : s0 = 0 ∨ s0 = 1) (hq : RtX X (some (.int s0)) h) : G X d 180 15 [none, none] [.int s0] h := by
  exact g_retz d_180_15 rfl z0 hq

/-! 181 PlayedTruthModel.learns(I)I -/
theorem k_181_0 {X : GX} {d : Nat} {h : Hp} {v1 : Int32} {d' : Nat} {Q' : Int32 → Hp → Prop} (hdd : d' < d) (hC : CI d' 182 [.ref 84, .int v1, .int 0] h Q') (kk : ∀ x h', Q' x h' → G X d 181 6 [some (.ref 84), some (.int v1)] [.int x] h') : G X d 181 0 [some (.ref 84), some (.int v1)] [] h := by
  refine g_aload_n d_181_0 rfl rfl ?_
  refine g_iload_n d_181_1 rfl rfl ?_
  refine g_iconst (v := 0) d_181_2 (by decide) ?_
  exact g_callVI (mj := 182) 9 [.int v1, .int 0] [] d_181_3 wd_402 mo_182 mc_182 mv_182 rfl rfl rfl (Nat.le_of_ble_eq_true rfl) rfl hdd hC kk

theorem k_181_6 {X : GX} {d : Nat} {h : Hp} {v1 : Int32} {s0 : Int32} {d' : Nat} {Q' : Int32 → Hp → Prop} (hdd : d' < d) (hC : CI d' 183 [.ref 84] h Q') (kk : ∀ x h', Q' x h' → G X d 181 10 [some (.ref 84), some (.int v1)] [.int x, .int s0] h') : G X d 181 6 [some (.ref 84), some (.int v1)] [.int s0] h := by
  refine g_aload_n d_181_6 rfl rfl ?_
  exact g_callVI (mj := 183) 9 [] [.int s0] d_181_7 wd_403 mo_183 mc_183 mv_183 rfl rfl rfl (Nat.le_of_ble_eq_true rfl) rfl hdd hC kk

theorem k_181_10 {X : GX} {d : Nat} {h : Hp} {v1 : Int32} {s0 : Int32} {s1 : Int32} {d' : Nat} {Q' : Int32 → Hp → Prop} (hdd : d' < d) (hC : CI d' 182 [.ref 84, .int v1, .int 1] h Q') (kk : ∀ x h', Q' x h' → G X d 181 16 [some (.ref 84), some (.int v1)] [.int x, .int s0, .int s1] h') : G X d 181 10 [some (.ref 84), some (.int v1)] [.int s0, .int s1] h := by
  refine g_aload_n d_181_10 rfl rfl ?_
  refine g_iload_n d_181_11 rfl rfl ?_
  refine g_iconst (v := 1) d_181_12 (by decide) ?_
  exact g_callVI (mj := 182) 9 [.int v1, .int 1] [.int s0, .int s1] d_181_13 wd_402 mo_182 mc_182 mv_182 rfl rfl rfl (Nat.le_of_ble_eq_true rfl) rfl hdd hC kk

theorem k_181_16 {X : GX} {d : Nat} {h : Hp} {v1 : Int32} {s0 : Int32} {s1 : Int32} {s2 : Int32} {d' : Nat} {Q' : Int32 → Hp → Prop} (b0 : IA 85 1) (hdd : d' < d) (hC : CI d' 185 [.int s2, .int s1, .int s0, .int (h 85 (Int32.toNatClampNeg 1))] h Q') (kk : ∀ x h', Q' x h' → G X d 181 25 [some (.ref 84), some (.int v1)] [.int x] h') : G X d 181 16 [some (.ref 84), some (.int v1)] [.int s0, .int s1, .int s2] h := by
  refine g_aload_n d_181_16 rfl rfl ?_
  refine g_getf (ci := 9) (k := 0) d_181_17 wd_355 (Nat.le_of_ble_eq_true rfl) rfl rfl ?_
  refine g_iconst (v := 1) d_181_20 (by decide) ?_
  refine g_iald d_181_21 b0 ?_
  exact g_callSI (mj := 185) [.int s2, .int s1, .int s0, .int (h 85 (Int32.toNatClampNeg 1))] [] d_181_22 wd_405 mo_185 mc_185 mv_185 rfl rfl (Nat.le_of_ble_eq_true rfl)  hdd hC kk

theorem k_181_25 {X : GX} {d : Nat} {h : Hp} {v1 : Int32} {s0 : Int32} {d' : Nat} {Q' : Int32 → Hp → Prop} (hdd : d' < d) (hC : CI d' 187 [.ref 84, .int v1] h Q') (kk : ∀ x h', Q' x h' → G X d 181 31 [some (.ref 84), some (.int v1)] [.int x, .int 5, .int s0] h') : G X d 181 25 [some (.ref 84), some (.int v1)] [.int s0] h := by
  refine g_iconst (v := 5) d_181_25 (by decide) ?_
  refine g_aload_n d_181_26 rfl rfl ?_
  refine g_iload_n d_181_27 rfl rfl ?_
  exact g_callVI (mj := 187) 9 [.int v1] [.int 5, .int s0] d_181_28 wd_407 mo_187 mc_187 mv_187 rfl rfl rfl (Nat.le_of_ble_eq_true rfl) rfl hdd hC kk

theorem k_181_31 {X : GX} {d : Nat} {h : Hp} {v1 : Int32} {s0 : Int32} {s1 : Int32} {s2 : Int32} {d' : Nat} {Q' : Int32 → Hp → Prop} (hdd : d' < d) (hC : CI d' 182 [.ref 84, .int v1, .int 3] h Q') (kk : ∀ x h', Q' x h' → G X d 181 45 [none, none] [.int x, .int 29, .ref 85, .int (s2 + (s1 * s0))] h') : G X d 181 31 [some (.ref 84), some (.int v1)] [.int s0, .int s1, .int s2] h := by
  refine g_imul d_181_31 ?_
  refine g_iadd d_181_32 ?_
  refine g_aload_n d_181_33 rfl rfl ?_
  refine g_getf (ci := 9) (k := 0) d_181_34 wd_355 (Nat.le_of_ble_eq_true rfl) rfl rfl ?_
  refine g_bipush (v := 29) d_181_37 (by decide) ?_
  refine g_aload_n d_181_39 rfl rfl ?_
  refine g_iload_n d_181_40 rfl rfl ?_
  refine g_iconst (v := 3) d_181_41 (by decide) ?_
  exact g_callVI (mj := 182) 9 [.int v1, .int 3] [.int 29, .ref 85, .int (s2 + (s1 * s0))] d_181_42 wd_402 mo_182 mc_182 mv_182 rfl rfl rfl (Nat.le_of_ble_eq_true rfl) rfl hdd hC (fun x h' q => g_mask [false, false] (kk x h' q))

theorem k_181_45 {X : GX} {d : Nat} {h : Hp} {s0 : Int32} {s1 : Int32} {s2 : Nat} {s3 : Int32} {d' : Nat} {Q' : Int32 → Hp → Prop} (b0 : IA s2 (s1 + s0)) (hdd : d' < d) (hC : CI d' 186 [.int (s3 - (h s2 (Int32.toNatClampNeg (s1 + s0)))), .int 0, .int 361] h Q') (kk : ∀ x h', Q' x h' → G X d 181 55 [none, none] [.int x] h') : G X d 181 45 [none, none] [.int s0, .int s1, .ref s2, .int s3] h := by
  refine g_iadd d_181_45 ?_
  refine g_iald d_181_46 b0 ?_
  refine g_isub d_181_47 ?_
  refine g_iconst (v := 0) d_181_48 (by decide) ?_
  refine g_sipush (v := 361) d_181_49 (by decide) ?_
  exact g_callSI (mj := 186) [.int (s3 - (h s2 (Int32.toNatClampNeg (s1 + s0)))), .int 0, .int 361] [] d_181_52 wd_406 mo_186 mc_186 mv_186 rfl rfl (Nat.le_of_ble_eq_true rfl)  hdd hC kk

theorem k_181_55 {X : GX} {d : Nat} {h : Hp} {s0 : Int32} (hq : RtX X (some (.int s0)) h) : G X d 181 55 [none, none] [.int s0] h := by
  exact g_reti d_181_55 rfl hq

/-! 182 PlayedTruthModel.of(II)I -/
theorem k_182_0 {X : GX} {d : Nat} {h : Hp} {v1 : Int32} {v2 : Int32} (b0 : IA 85 ((35 + (5 * v1)) + v2)) (hq : RtX X (some (.int (h 85 (Int32.toNatClampNeg ((35 + (5 * v1)) + v2))))) h) : G X d 182 0 [some (.ref 84), some (.int v1), some (.int v2)] [] h := by
  refine g_aload_n d_182_0 rfl rfl ?_
  refine g_getf (ci := 9) (k := 0) d_182_1 wd_355 (Nat.le_of_ble_eq_true rfl) rfl rfl ?_
  refine g_bipush (v := 35) d_182_4 (by decide) ?_
  refine g_iconst (v := 5) d_182_6 (by decide) ?_
  refine g_iload_n d_182_7 rfl rfl ?_
  refine g_imul d_182_8 ?_
  refine g_iadd d_182_9 ?_
  refine g_iload_n d_182_10 rfl rfl ?_
  refine g_iadd d_182_11 ?_
  refine g_iald d_182_12 b0 ?_
  exact g_reti d_182_13 rfl hq

/-! 183 PlayedTruthModel.rail()I -/
theorem k_183_0 {X : GX} {d : Nat} {h : Hp} {d' : Nat} {Q' : Int32 → Hp → Prop} (b0 : IA 85 1) (hdd : d' < d) (hC : CI d' 184 [.ref 84, .int (h 85 (Int32.toNatClampNeg 1))] h Q') (kk : ∀ x h', Q' x h' → G X d 183 10 [none] [.int x] h') : G X d 183 0 [some (.ref 84)] [] h := by
  refine g_aload_n d_183_0 rfl rfl ?_
  refine g_aload_n d_183_1 rfl rfl ?_
  refine g_getf (ci := 9) (k := 0) d_183_2 wd_355 (Nat.le_of_ble_eq_true rfl) rfl rfl ?_
  refine g_iconst (v := 1) d_183_5 (by decide) ?_
  refine g_iald d_183_6 b0 ?_
  exact g_callVI (mj := 184) 9 [.int (h 85 (Int32.toNatClampNeg 1))] [] d_183_7 wd_404 mo_184 mc_184 mv_184 rfl rfl rfl (Nat.le_of_ble_eq_true rfl) rfl hdd hC (fun x h' q => g_mask [false] (kk x h' q))

theorem k_183_10 {X : GX} {d : Nat} {h : Hp} {s0 : Int32} (hq : RtX X (some (.int (s0 / 4))) h) : G X d 183 10 [none] [.int s0] h := by
  refine g_iconst (v := 4) d_183_10 (by decide) ?_
  refine g_idiv d_183_11 (by decide) ?_
  exact g_reti d_183_12 rfl hq

/-! 184 PlayedTruthModel.houseOf(I)I -/
theorem k_184_0 {X : GX} {d : Nat} {h : Hp} {v1 : Int32} (kt : 16 ≤ v1 → G X d 184 18 [none, none] [] h) (kf : ¬ 16 ≤ v1 → G X d 184 6 [some (.ref 84), some (.int v1)] [] h) : G X d 184 0 [some (.ref 84), some (.int v1)] [] h := by
  refine g_iload_n d_184_0 rfl rfl ?_
  refine g_bipush (v := 16) d_184_1 (by decide) ?_
  exact g_icmp_ge (tgt := 18) d_184_3 (by decide) (fun q => g_mask [false, false] (kt q)) kf

theorem k_184_6 {X : GX} {d : Nat} {h : Hp} {v1 : Int32} (b0 : IA 85 (7 + v1)) (hq : RtX X (some (.int (h 85 (Int32.toNatClampNeg (7 + v1))))) h) : G X d 184 6 [some (.ref 84), some (.int v1)] [] h := by
  refine g_aload_n d_184_6 rfl rfl ?_
  refine g_getf (ci := 9) (k := 0) d_184_7 wd_355 (Nat.le_of_ble_eq_true rfl) rfl rfl ?_
  refine g_bipush (v := 7) d_184_10 (by decide) ?_
  refine g_iload_n d_184_12 rfl rfl ?_
  refine g_iadd d_184_13 ?_
  refine g_iald d_184_14 b0 ?_
  refine g_goto (tgt := 19) d_184_15 (by decide) ?_
  exact g_reti d_184_19 rfl hq

theorem k_184_18 {X : GX} {d : Nat} {h : Hp} (hq : RtX X (some (.int 0)) h) : G X d 184 18 [none, none] [] h := by
  refine g_iconst (v := 0) d_184_18 (by decide) ?_
  exact g_reti d_184_19 rfl hq

/-! 185 PlayedTruthModel.learnsBy(IIII)I -/
theorem k_185_0 {X : GX} {d : Nat} {h : Hp} {v0 : Int32} {v1 : Int32} {v2 : Int32} {v3 : Int32} (kt : v2 ≤ 40 → G X d 185 12 [some (.int v0), some (.int v1), some (.int v2), some (.int v3), none] [] h) (kf : ¬ v2 ≤ 40 → G X d 185 6 [some (.int v0), some (.int v1), some (.int v2), some (.int v3), none] [] h) : G X d 185 0 [some (.int v0), some (.int v1), some (.int v2), some (.int v3), none] [] h := by
  refine g_iload_n d_185_0 rfl rfl ?_
  refine g_bipush (v := 40) d_185_1 (by decide) ?_
  exact g_icmp_le (tgt := 12) d_185_3 (by decide) kt kf

theorem k_185_6 {X : GX} {d : Nat} {h : Hp} {v0 : Int32} {v1 : Int32} {v2 : Int32} {v3 : Int32} (k0 : v0 = 1 → G X d 185 52 [none, some (.int v1), some (.int v2), none, none] [] h) (k1 : v0 = 2 → G X d 185 62 [none, none, none, none, some (.int (4 * v1))] [] h) (k2 : v0 = 3 → G X d 185 65 [none, none, none, none, some (.int (4 * v1))] [] h) (k3 : v0 = 4 → G X d 185 76 [none, some (.int v1), none, none, none] [] h) (k4 : v0 = 5 → G X d 185 82 [none, some (.int v1), none, some (.int v3), none] [] h) (kd : ¬ v0 = 1 → ¬ v0 = 2 → ¬ v0 = 3 → ¬ v0 = 4 → ¬ v0 = 5 → G X d 185 99 [none, some (.int v1), none, none, none] [] h) : G X d 185 6 [some (.int v0), some (.int v1), some (.int v2), some (.int v3), none] [] h := by
  refine g_iconst (v := 4) d_185_6 (by decide) ?_
  refine g_iload_n d_185_7 rfl rfl ?_
  refine g_imul d_185_8 ?_
  refine g_goto (tgt := 16) d_185_9 (by decide) ?_
  refine g_istore d_185_16 (Nat.le_of_ble_eq_true rfl) rfl ?_
  refine g_iload_n d_185_18 rfl rfl ?_
  exact g_table (tls := [(1, 52), (2, 62), (3, 65), (4, 76), (5, 82)]) (df := 99) d_185_19 (by decide +kernel) ⟨fun q => g_mask [false, true, true, false, false] (k0 q), fun n0 => ⟨fun q => g_mask [false, false, false, false, true] (k1 q), fun n1 => ⟨fun q => g_mask [false, false, false, false, true] (k2 q), fun n2 => ⟨fun q => g_mask [false, true, false, false, false] (k3 q), fun n3 => ⟨fun q => g_mask [false, true, false, true, false] (k4 q), fun n4 => (g_mask [false, true, false, false, false] (kd n0 n1 n2 n3 n4))⟩⟩⟩⟩⟩

theorem k_185_12 {X : GX} {d : Nat} {h : Hp} {v0 : Int32} {v1 : Int32} {v2 : Int32} {v3 : Int32} (k0 : v0 = 1 → G X d 185 52 [none, some (.int v1), some (.int v2), none, none] [] h) (k1 : v0 = 2 → G X d 185 62 [none, none, none, none, some (.int (8 * v1))] [] h) (k2 : v0 = 3 → G X d 185 65 [none, none, none, none, some (.int (8 * v1))] [] h) (k3 : v0 = 4 → G X d 185 76 [none, some (.int v1), none, none, none] [] h) (k4 : v0 = 5 → G X d 185 82 [none, some (.int v1), none, some (.int v3), none] [] h) (kd : ¬ v0 = 1 → ¬ v0 = 2 → ¬ v0 = 3 → ¬ v0 = 4 → ¬ v0 = 5 → G X d 185 99 [none, some (.int v1), none, none, none] [] h) : G X d 185 12 [some (.int v0), some (.int v1), some (.int v2), some (.int v3), none] [] h := by
  refine g_bipush (v := 8) d_185_12 (by decide) ?_
  refine g_iload_n d_185_14 rfl rfl ?_
  refine g_imul d_185_15 ?_
  refine g_istore d_185_16 (Nat.le_of_ble_eq_true rfl) rfl ?_
  refine g_iload_n d_185_18 rfl rfl ?_
  exact g_table (tls := [(1, 52), (2, 62), (3, 65), (4, 76), (5, 82)]) (df := 99) d_185_19 (by decide +kernel) ⟨fun q => g_mask [false, true, true, false, false] (k0 q), fun n0 => ⟨fun q => g_mask [false, false, false, false, true] (k1 q), fun n1 => ⟨fun q => g_mask [false, false, false, false, true] (k2 q), fun n2 => ⟨fun q => g_mask [false, true, false, false, false] (k3 q), fun n3 => ⟨fun q => g_mask [false, true, false, true, false] (k4 q), fun n4 => (g_mask [false, true, false, false, false] (kd n0 n1 n2 n3 n4))⟩⟩⟩⟩⟩

theorem k_185_52 {X : GX} {d : Nat} {h : Hp} {v1 : Int32} {v2 : Int32} (hq : RtX X (some (.int ((8 * v1) + (v2 / 10)))) h) : G X d 185 52 [none, some (.int v1), some (.int v2), none, none] [] h := by
  refine g_bipush (v := 8) d_185_52 (by decide) ?_
  refine g_iload_n d_185_54 rfl rfl ?_
  refine g_imul d_185_55 ?_
  refine g_iload_n d_185_56 rfl rfl ?_
  refine g_bipush (v := 10) d_185_57 (by decide) ?_
  refine g_idiv d_185_59 (by decide) ?_
  refine g_iadd d_185_60 ?_
  exact g_reti d_185_61 rfl hq

theorem k_185_62 {X : GX} {d : Nat} {h : Hp} {v4 : Int32} (hq : RtX X (some (.int v4)) h) : G X d 185 62 [none, none, none, none, some (.int v4)] [] h := by
  refine g_iload d_185_62 rfl ?_
  exact g_reti d_185_64 rfl hq

theorem k_185_65 {X : GX} {d : Nat} {h : Hp} {v4 : Int32} {d' : Nat} {Q' : Int32 → Hp → Prop} (hdd : d' < d) (hC : CI d' 186 [.int (v4 - 3), .int 0, .int 99] h Q') (kk : ∀ x h', Q' x h' → G X d 185 75 [none, none, none, none, none] [.int x] h') : G X d 185 65 [none, none, none, none, some (.int v4)] [] h := by
  refine g_iload d_185_65 rfl ?_
  refine g_iconst (v := 3) d_185_67 (by decide) ?_
  refine g_isub d_185_68 ?_
  refine g_iconst (v := 0) d_185_69 (by decide) ?_
  refine g_bipush (v := 99) d_185_70 (by decide) ?_
  exact g_callSI (mj := 186) [.int (v4 - 3), .int 0, .int 99] [] d_185_72 wd_406 mo_186 mc_186 mv_186 rfl rfl (Nat.le_of_ble_eq_true rfl)  hdd hC (fun x h' q => g_mask [false, false, false, false, false] (kk x h' q))

theorem k_185_75 {X : GX} {d : Nat} {h : Hp} {s0 : Int32} (hq : RtX X (some (.int s0)) h) : G X d 185 75 [none, none, none, none, none] [.int s0] h := by
  exact g_reti d_185_75 rfl hq

theorem k_185_76 {X : GX} {d : Nat} {h : Hp} {v1 : Int32} (hq : RtX X (some (.int ((5 * v1) + 4))) h) : G X d 185 76 [none, some (.int v1), none, none, none] [] h := by
  refine g_iconst (v := 5) d_185_76 (by decide) ?_
  refine g_iload_n d_185_77 rfl rfl ?_
  refine g_imul d_185_78 ?_
  refine g_iconst (v := 4) d_185_79 (by decide) ?_
  refine g_iadd d_185_80 ?_
  exact g_reti d_185_81 rfl hq

theorem k_185_82 {X : GX} {d : Nat} {h : Hp} {v1 : Int32} {v3 : Int32} (kt : ¬ (v3 - v3 / 2 * 2) = 1 → G X d 185 93 [none, some (.int v1), none, none, none] [] h) (kf : (v3 - v3 / 2 * 2) = 1 → G X d 185 89 [none, none, none, none, none] [] h) : G X d 185 82 [none, some (.int v1), none, some (.int v3), none] [] h := by
  refine g_iload_n d_185_82 rfl rfl ?_
  refine g_iconst (v := 2) d_185_83 (by decide) ?_
  refine g_irem d_185_84 (by decide) ?_
  refine g_iconst (v := 1) d_185_85 (by decide) ?_
  exact g_icmp_ne (tgt := 93) d_185_86 (by decide) (fun q => g_mask [false, true, false, false, false] (kt q)) (fun q => g_mask [false, false, false, false, false] (kf q))

theorem k_185_89 {X : GX} {d : Nat} {h : Hp} (hq : RtX X (some (.int 0)) h) : G X d 185 89 [none, none, none, none, none] [] h := by
  refine g_iconst (v := 0) d_185_89 (by decide) ?_
  refine g_goto (tgt := 98) d_185_90 (by decide) ?_
  exact g_reti d_185_98 rfl hq

theorem k_185_93 {X : GX} {d : Nat} {h : Hp} {v1 : Int32} (hq : RtX X (some (.int ((5 * v1) + 4))) h) : G X d 185 93 [none, some (.int v1), none, none, none] [] h := by
  refine g_iconst (v := 5) d_185_93 (by decide) ?_
  refine g_iload_n d_185_94 rfl rfl ?_
  refine g_imul d_185_95 ?_
  refine g_iconst (v := 4) d_185_96 (by decide) ?_
  refine g_iadd d_185_97 ?_
  exact g_reti d_185_98 rfl hq

theorem k_185_99 {X : GX} {d : Nat} {h : Hp} {v1 : Int32} (hq : RtX X (some (.int (8 * v1))) h) : G X d 185 99 [none, some (.int v1), none, none, none] [] h := by
  refine g_bipush (v := 8) d_185_99 (by decide) ?_
  refine g_iload_n d_185_101 rfl rfl ?_
  refine g_imul d_185_102 ?_
  exact g_reti d_185_103 rfl hq

/-! 186 PlayedTruthModel.held(III)I -/
theorem k_186_0 {X : GX} {d : Nat} {h : Hp} {v0 : Int32} {v1 : Int32} {v2 : Int32} (kt : v1 ≤ v0 → G X d 186 9 [some (.int v0), none, some (.int v2)] [] h) (kf : ¬ v1 ≤ v0 → G X d 186 5 [none, some (.int v1), none] [] h) : G X d 186 0 [some (.int v0), some (.int v1), some (.int v2)] [] h := by
  refine g_iload_n d_186_0 rfl rfl ?_
  refine g_iload_n d_186_1 rfl rfl ?_
  exact g_icmp_ge (tgt := 9) d_186_2 (by decide) (fun q => g_mask [true, false, true] (kt q)) (fun q => g_mask [false, true, false] (kf q))

theorem k_186_5 {X : GX} {d : Nat} {h : Hp} {v1 : Int32} (hq : RtX X (some (.int v1)) h) : G X d 186 5 [none, some (.int v1), none] [] h := by
  refine g_iload_n d_186_5 rfl rfl ?_
  refine g_goto (tgt := 19) d_186_6 (by decide) ?_
  exact g_reti d_186_19 rfl hq

theorem k_186_9 {X : GX} {d : Nat} {h : Hp} {v0 : Int32} {v2 : Int32} (kt : v0 ≤ v2 → G X d 186 18 [some (.int v0), none, none] [] h) (kf : ¬ v0 ≤ v2 → G X d 186 14 [none, none, some (.int v2)] [] h) : G X d 186 9 [some (.int v0), none, some (.int v2)] [] h := by
  refine g_iload_n d_186_9 rfl rfl ?_
  refine g_iload_n d_186_10 rfl rfl ?_
  exact g_icmp_le (tgt := 18) d_186_11 (by decide) (fun q => g_mask [true, false, false] (kt q)) (fun q => g_mask [false, false, true] (kf q))

theorem k_186_14 {X : GX} {d : Nat} {h : Hp} {v2 : Int32} (hq : RtX X (some (.int v2)) h) : G X d 186 14 [none, none, some (.int v2)] [] h := by
  refine g_iload_n d_186_14 rfl rfl ?_
  refine g_goto (tgt := 19) d_186_15 (by decide) ?_
  exact g_reti d_186_19 rfl hq

theorem k_186_18 {X : GX} {d : Nat} {h : Hp} {v0 : Int32} (hq : RtX X (some (.int v0)) h) : G X d 186 18 [some (.int v0), none, none] [] h := by
  refine g_iload_n d_186_18 rfl rfl ?_
  exact g_reti d_186_19 rfl hq

/-! 187 PlayedTruthModel.leans(I)I -/
theorem k_187_0 {X : GX} {d : Nat} {h : Hp} {v1 : Int32} (kk : G X d 187 4 [some (.ref 84), some (.int v1), some (.int 0), some (.int 0)] [] h) : G X d 187 0 [some (.ref 84), some (.int v1), none, none] [] h := by
  refine g_iconst (v := 0) d_187_0 (by decide) ?_
  refine g_istore_n d_187_1 rfl (Nat.le_of_ble_eq_true rfl) rfl ?_
  refine g_iconst (v := 0) d_187_2 (by decide) ?_
  refine g_istore_n d_187_3 rfl (Nat.le_of_ble_eq_true rfl) rfl ?_
  exact kk

theorem k_187_4 {X : GX} {d : Nat} {h : Hp} {v1 : Int32} {v2 : Int32} {v3 : Int32} (b0 : IA 85 0) (kt : (h 85 (Int32.toNatClampNeg 0)) ≤ v3 → G X d 187 55 [none, none, some (.int v2), none] [] h) (kf : ¬ (h 85 (Int32.toNatClampNeg 0)) ≤ v3 → G X d 187 14 [some (.ref 84), some (.int v1), some (.int v2), some (.int v3)] [] h) : G X d 187 4 [some (.ref 84), some (.int v1), some (.int v2), some (.int v3)] [] h := by
  refine g_iload_n d_187_4 rfl rfl ?_
  refine g_aload_n d_187_5 rfl rfl ?_
  refine g_getf (ci := 9) (k := 0) d_187_6 wd_355 (Nat.le_of_ble_eq_true rfl) rfl rfl ?_
  refine g_iconst (v := 0) d_187_9 (by decide) ?_
  refine g_iald d_187_10 b0 ?_
  exact g_icmp_ge (tgt := 55) d_187_11 (by decide) (fun q => g_mask [false, false, true, false] (kt q)) kf

theorem k_187_14 {X : GX} {d : Nat} {h : Hp} {v1 : Int32} {v2 : Int32} {v3 : Int32} {d' : Nat} {Q' : Int32 → Hp → Prop} (hdd : d' < d) (hC : CI d' 182 [.ref 84, .int v3, .int 4] h Q') (kk : ∀ x h', Q' x h' → G X d 187 21 [some (.ref 84), some (.int v1), none, some (.int v3)] [.int x, .int v2] h') : G X d 187 14 [some (.ref 84), some (.int v1), some (.int v2), some (.int v3)] [] h := by
  refine g_iload_n d_187_14 rfl rfl ?_
  refine g_aload_n d_187_15 rfl rfl ?_
  refine g_iload_n d_187_16 rfl rfl ?_
  refine g_iconst (v := 4) d_187_17 (by decide) ?_
  exact g_callVI (mj := 182) 9 [.int v3, .int 4] [.int v2] d_187_18 wd_402 mo_182 mc_182 mv_182 rfl rfl rfl (Nat.le_of_ble_eq_true rfl) rfl hdd hC (fun x h' q => g_mask [true, true, false, true] (kk x h' q))

theorem k_187_21 {X : GX} {d : Nat} {h : Hp} {v1 : Int32} {v3 : Int32} {s0 : Int32} {s1 : Int32} (kt : ¬ s0 = 1 → G X d 187 46 [some (.ref 84), some (.int v1), none, some (.int v3)] [.int s1] h) (kf : s0 = 1 → G X d 187 25 [some (.ref 84), some (.int v1), none, some (.int v3)] [.int s1] h) : G X d 187 21 [some (.ref 84), some (.int v1), none, some (.int v3)] [.int s0, .int s1] h := by
  refine g_iconst (v := 1) d_187_21 (by decide) ?_
  exact g_icmp_ne (tgt := 46) d_187_22 (by decide) kt kf

theorem k_187_25 {X : GX} {d : Nat} {h : Hp} {v1 : Int32} {v3 : Int32} {s0 : Int32} {d' : Nat} {Q' : Int32 → Hp → Prop} (hdd : d' < d) (hC : CI d' 182 [.ref 84, .int v3, .int 3] h Q') (kk : ∀ x h', Q' x h' → G X d 187 31 [some (.ref 84), some (.int v1), none, some (.int v3)] [.int x, .int s0] h') : G X d 187 25 [some (.ref 84), some (.int v1), none, some (.int v3)] [.int s0] h := by
  refine g_aload_n d_187_25 rfl rfl ?_
  refine g_iload_n d_187_26 rfl rfl ?_
  refine g_iconst (v := 3) d_187_27 (by decide) ?_
  exact g_callVI (mj := 182) 9 [.int v3, .int 3] [.int s0] d_187_28 wd_402 mo_182 mc_182 mv_182 rfl rfl rfl (Nat.le_of_ble_eq_true rfl) rfl hdd hC kk

theorem k_187_31 {X : GX} {d : Nat} {h : Hp} {v1 : Int32} {v3 : Int32} {s0 : Int32} {s1 : Int32} {d' : Nat} {Q' : Int32 → Hp → Prop} (hdd : d' < d) (hC : CI d' 182 [.ref 84, .int v1, .int 3] h Q') (kk : ∀ x h', Q' x h' → G X d 187 37 [some (.ref 84), some (.int v1), none, some (.int v3)] [.int x, .int s0, .int s1] h') : G X d 187 31 [some (.ref 84), some (.int v1), none, some (.int v3)] [.int s0, .int s1] h := by
  refine g_aload_n d_187_31 rfl rfl ?_
  refine g_iload_n d_187_32 rfl rfl ?_
  refine g_iconst (v := 3) d_187_33 (by decide) ?_
  exact g_callVI (mj := 182) 9 [.int v1, .int 3] [.int s0, .int s1] d_187_34 wd_402 mo_182 mc_182 mv_182 rfl rfl rfl (Nat.le_of_ble_eq_true rfl) rfl hdd hC kk

theorem k_187_37 {X : GX} {d : Nat} {h : Hp} {v1 : Int32} {v3 : Int32} {s0 : Int32} {s1 : Int32} {s2 : Int32} (kt : ¬ s1 = (s0 - 1) → G X d 187 46 [some (.ref 84), some (.int v1), none, some (.int v3)] [.int s2] h) (kf : s1 = (s0 - 1) → G X d 187 42 [some (.ref 84), some (.int v1), none, some (.int v3)] [.int s2] h) : G X d 187 37 [some (.ref 84), some (.int v1), none, some (.int v3)] [.int s0, .int s1, .int s2] h := by
  refine g_iconst (v := 1) d_187_37 (by decide) ?_
  refine g_isub d_187_38 ?_
  exact g_icmp_ne (tgt := 46) d_187_39 (by decide) kt kf

theorem k_187_42 {X : GX} {d : Nat} {h : Hp} {v1 : Int32} {v3 : Int32} {s0 : Int32} (kk : G X d 187 4 [some (.ref 84), some (.int v1), some (.int (s0 + 1)), some (.int (v3 + 1))] [] h) : G X d 187 42 [some (.ref 84), some (.int v1), none, some (.int v3)] [.int s0] h := by
  refine g_iconst (v := 1) d_187_42 (by decide) ?_
  refine g_goto (tgt := 47) d_187_43 (by decide) ?_
  refine g_iadd d_187_47 ?_
  refine g_istore_n d_187_48 rfl (Nat.le_of_ble_eq_true rfl) rfl ?_
  refine g_iinc (w := 1) d_187_49 rfl (by decide) (Nat.le_of_ble_eq_true rfl) rfl ?_
  refine g_goto (tgt := 4) d_187_52 (by decide) ?_
  exact kk

theorem k_187_46 {X : GX} {d : Nat} {h : Hp} {v1 : Int32} {v3 : Int32} {s0 : Int32} (kk : G X d 187 4 [some (.ref 84), some (.int v1), some (.int (s0 + 0)), some (.int (v3 + 1))] [] h) : G X d 187 46 [some (.ref 84), some (.int v1), none, some (.int v3)] [.int s0] h := by
  refine g_iconst (v := 0) d_187_46 (by decide) ?_
  refine g_iadd d_187_47 ?_
  refine g_istore_n d_187_48 rfl (Nat.le_of_ble_eq_true rfl) rfl ?_
  refine g_iinc (w := 1) d_187_49 rfl (by decide) (Nat.le_of_ble_eq_true rfl) rfl ?_
  refine g_goto (tgt := 4) d_187_52 (by decide) ?_
  exact kk

theorem k_187_55 {X : GX} {d : Nat} {h : Hp} {v2 : Int32} (hq : RtX X (some (.int v2)) h) : G X d 187 55 [none, none, some (.int v2), none] [] h := by
  refine g_iload_n d_187_55 rfl rfl ?_
  exact g_reti d_187_56 rfl hq

/-! 188 PlayedTruthModel.draws(I)I -/
theorem k_188_0 {X : GX} {d : Nat} {h : Hp} {v1 : Int32} {d' : Nat} {Q' : Int32 → Hp → Prop} (hdd : d' < d) (hC : CI d' 182 [.ref 84, .int v1, .int 0] h Q') (kk : ∀ x h', Q' x h' → G X d 188 6 [some (.ref 84), some (.int v1)] [.int x] h') : G X d 188 0 [some (.ref 84), some (.int v1)] [] h := by
  refine g_aload_n d_188_0 rfl rfl ?_
  refine g_iload_n d_188_1 rfl rfl ?_
  refine g_iconst (v := 0) d_188_2 (by decide) ?_
  exact g_callVI (mj := 182) 9 [.int v1, .int 0] [] d_188_3 wd_402 mo_182 mc_182 mv_182 rfl rfl rfl (Nat.le_of_ble_eq_true rfl) rfl hdd hC kk

theorem k_188_6 {X : GX} {d : Nat} {h : Hp} {v1 : Int32} {s0 : Int32} {d' : Nat} {Q' : Int32 → Hp → Prop} (hdd : d' < d) (hC : CI d' 182 [.ref 84, .int v1, .int 2] h Q') (kk : ∀ x h', Q' x h' → G X d 188 12 [some (.ref 84), some (.int v1)] [.int x, .int s0] h') : G X d 188 6 [some (.ref 84), some (.int v1)] [.int s0] h := by
  refine g_aload_n d_188_6 rfl rfl ?_
  refine g_iload_n d_188_7 rfl rfl ?_
  refine g_iconst (v := 2) d_188_8 (by decide) ?_
  exact g_callVI (mj := 182) 9 [.int v1, .int 2] [.int s0] d_188_9 wd_402 mo_182 mc_182 mv_182 rfl rfl rfl (Nat.le_of_ble_eq_true rfl) rfl hdd hC kk

theorem k_188_12 {X : GX} {d : Nat} {h : Hp} {v1 : Int32} {s0 : Int32} {s1 : Int32} {d' : Nat} {Q' : Int32 → Hp → Prop} (hdd : d' < d) (hC : CI d' 182 [.ref 84, .int v1, .int 1] h Q') (kk : ∀ x h', Q' x h' → G X d 188 18 [some (.ref 84), some (.int v1)] [.int x, .int s0, .int s1] h') : G X d 188 12 [some (.ref 84), some (.int v1)] [.int s0, .int s1] h := by
  refine g_aload_n d_188_12 rfl rfl ?_
  refine g_iload_n d_188_13 rfl rfl ?_
  refine g_iconst (v := 1) d_188_14 (by decide) ?_
  exact g_callVI (mj := 182) 9 [.int v1, .int 1] [.int s0, .int s1] d_188_15 wd_402 mo_182 mc_182 mv_182 rfl rfl rfl (Nat.le_of_ble_eq_true rfl) rfl hdd hC kk

theorem k_188_18 {X : GX} {d : Nat} {h : Hp} {v1 : Int32} {s0 : Int32} {s1 : Int32} {s2 : Int32} {d' : Nat} {Q' : Int32 → Hp → Prop} (hdd : d' < d) (hC : CI d' 189 [.int s2, .int s1, .int s0, .int v1] h Q') (kk : ∀ x h', Q' x h' → G X d 188 22 [some (.ref 84), some (.int v1)] [.int x] h') : G X d 188 18 [some (.ref 84), some (.int v1)] [.int s0, .int s1, .int s2] h := by
  refine g_iload_n d_188_18 rfl rfl ?_
  exact g_callSI (mj := 189) [.int s2, .int s1, .int s0, .int v1] [] d_188_19 wd_409 mo_189 mc_189 mv_189 rfl rfl (Nat.le_of_ble_eq_true rfl)  hdd hC kk

theorem k_188_22 {X : GX} {d : Nat} {h : Hp} {v1 : Int32} {s0 : Int32} {d' : Nat} {Q' : Int32 → Hp → Prop} (hdd : d' < d) (hC : CI d' 182 [.ref 84, .int v1, .int 3] h Q') (kk : ∀ x h', Q' x h' → G X d 188 34 [none, none] [.int x, .int 23, .ref 85, .int s0] h') : G X d 188 22 [some (.ref 84), some (.int v1)] [.int s0] h := by
  refine g_aload_n d_188_22 rfl rfl ?_
  refine g_getf (ci := 9) (k := 0) d_188_23 wd_355 (Nat.le_of_ble_eq_true rfl) rfl rfl ?_
  refine g_bipush (v := 23) d_188_26 (by decide) ?_
  refine g_aload_n d_188_28 rfl rfl ?_
  refine g_iload_n d_188_29 rfl rfl ?_
  refine g_iconst (v := 3) d_188_30 (by decide) ?_
  exact g_callVI (mj := 182) 9 [.int v1, .int 3] [.int 23, .ref 85, .int s0] d_188_31 wd_402 mo_182 mc_182 mv_182 rfl rfl rfl (Nat.le_of_ble_eq_true rfl) rfl hdd hC (fun x h' q => g_mask [false, false] (kk x h' q))

theorem k_188_34 {X : GX} {d : Nat} {h : Hp} {s0 : Int32} {s1 : Int32} {s2 : Nat} {s3 : Int32} (b0 : IA s2 (s1 + s0)) (hq : RtX X (some (.int (s3 + (h s2 (Int32.toNatClampNeg (s1 + s0)))))) h) : G X d 188 34 [none, none] [.int s0, .int s1, .ref s2, .int s3] h := by
  refine g_iadd d_188_34 ?_
  refine g_iald d_188_35 b0 ?_
  refine g_iadd d_188_36 ?_
  exact g_reti d_188_37 rfl hq

/-! 189 PlayedTruthModel.drawsBy(IIII)I -/
theorem k_189_0 {X : GX} {d : Nat} {h : Hp} {v0 : Int32} {v1 : Int32} {v2 : Int32} {v3 : Int32} {d' : Nat} {Q' : Int32 → Hp → Prop} (hdd : d' < d) (hC : CI d' 186 [.int ((10 + v1) - (v2 / 9)), .int 0, .int 99] h Q') (kk : ∀ x h', Q' x h' → G X d 189 15 [some (.int v0), some (.int v1), none, some (.int v3), none] [.int x] h') : G X d 189 0 [some (.int v0), some (.int v1), some (.int v2), some (.int v3), none] [] h := by
  refine g_bipush (v := 10) d_189_0 (by decide) ?_
  refine g_iload_n d_189_2 rfl rfl ?_
  refine g_iadd d_189_3 ?_
  refine g_iload_n d_189_4 rfl rfl ?_
  refine g_bipush (v := 9) d_189_5 (by decide) ?_
  refine g_idiv d_189_7 (by decide) ?_
  refine g_isub d_189_8 ?_
  refine g_iconst (v := 0) d_189_9 (by decide) ?_
  refine g_bipush (v := 99) d_189_10 (by decide) ?_
  exact g_callSI (mj := 186) [.int ((10 + v1) - (v2 / 9)), .int 0, .int 99] [] d_189_12 wd_406 mo_186 mc_186 mv_186 rfl rfl (Nat.le_of_ble_eq_true rfl)  hdd hC (fun x h' q => g_mask [true, true, false, true, false] (kk x h' q))

theorem k_189_15 {X : GX} {d : Nat} {h : Hp} {v0 : Int32} {v1 : Int32} {v3 : Int32} {s0 : Int32} (k0 : v0 = 1 → G X d 189 52 [none, none, none, none, none] [] h) (k1 : v0 = 2 → G X d 189 55 [none, some (.int v1), none, none, some (.int s0)] [] h) (k2 : v0 = 3 → G X d 189 60 [none, some (.int v1), none, none, some (.int s0)] [] h) (k3 : v0 = 4 → G X d 189 67 [none, none, none, none, some (.int s0)] [] h) (k4 : v0 = 5 → G X d 189 72 [none, none, none, some (.int v3), some (.int s0)] [] h) (kd : ¬ v0 = 1 → ¬ v0 = 2 → ¬ v0 = 3 → ¬ v0 = 4 → ¬ v0 = 5 → G X d 189 79 [none, none, none, none, some (.int s0)] [] h) : G X d 189 15 [some (.int v0), some (.int v1), none, some (.int v3), none] [.int s0] h := by
  refine g_istore d_189_15 (Nat.le_of_ble_eq_true rfl) rfl ?_
  refine g_iload_n d_189_17 rfl rfl ?_
  exact g_table (tls := [(1, 52), (2, 55), (3, 60), (4, 67), (5, 72)]) (df := 79) d_189_18 (by decide +kernel) ⟨fun q => g_mask [false, false, false, false, false] (k0 q), fun n0 => ⟨fun q => g_mask [false, true, false, false, true] (k1 q), fun n1 => ⟨fun q => g_mask [false, true, false, false, true] (k2 q), fun n2 => ⟨fun q => g_mask [false, false, false, false, true] (k3 q), fun n3 => ⟨fun q => g_mask [false, false, false, true, true] (k4 q), fun n4 => (g_mask [false, false, false, false, true] (kd n0 n1 n2 n3 n4))⟩⟩⟩⟩⟩

theorem k_189_52 {X : GX} {d : Nat} {h : Hp} (hq : RtX X (some (.int 9)) h) : G X d 189 52 [none, none, none, none, none] [] h := by
  refine g_bipush (v := 9) d_189_52 (by decide) ?_
  exact g_reti d_189_54 rfl hq

theorem k_189_55 {X : GX} {d : Nat} {h : Hp} {v1 : Int32} {v4 : Int32} (hq : RtX X (some (.int (v4 + v1))) h) : G X d 189 55 [none, some (.int v1), none, none, some (.int v4)] [] h := by
  refine g_iload d_189_55 rfl ?_
  refine g_iload_n d_189_57 rfl rfl ?_
  refine g_iadd d_189_58 ?_
  exact g_reti d_189_59 rfl hq

theorem k_189_60 {X : GX} {d : Nat} {h : Hp} {v1 : Int32} {v4 : Int32} (hq : RtX X (some (.int (2 * (v4 + v1)))) h) : G X d 189 60 [none, some (.int v1), none, none, some (.int v4)] [] h := by
  refine g_iconst (v := 2) d_189_60 (by decide) ?_
  refine g_iload d_189_61 rfl ?_
  refine g_iload_n d_189_63 rfl rfl ?_
  refine g_iadd d_189_64 ?_
  refine g_imul d_189_65 ?_
  exact g_reti d_189_66 rfl hq

theorem k_189_67 {X : GX} {d : Nat} {h : Hp} {v4 : Int32} (hq : RtX X (some (.int (v4 / 2))) h) : G X d 189 67 [none, none, none, none, some (.int v4)] [] h := by
  refine g_iload d_189_67 rfl ?_
  refine g_iconst (v := 2) d_189_69 (by decide) ?_
  refine g_idiv d_189_70 (by decide) ?_
  exact g_reti d_189_71 rfl hq

theorem k_189_72 {X : GX} {d : Nat} {h : Hp} {v3 : Int32} {v4 : Int32} (hq : RtX X (some (.int ((v4 / 2) + v3))) h) : G X d 189 72 [none, none, none, some (.int v3), some (.int v4)] [] h := by
  refine g_iload d_189_72 rfl ?_
  refine g_iconst (v := 2) d_189_74 (by decide) ?_
  refine g_idiv d_189_75 (by decide) ?_
  refine g_iload_n d_189_76 rfl rfl ?_
  refine g_iadd d_189_77 ?_
  exact g_reti d_189_78 rfl hq

theorem k_189_79 {X : GX} {d : Nat} {h : Hp} {v4 : Int32} (hq : RtX X (some (.int v4)) h) : G X d 189 79 [none, none, none, none, some (.int v4)] [] h := by
  refine g_iload d_189_79 rfl ?_
  exact g_reti d_189_81 rfl hq

/-! 190 PlayedTruthModel.isMendable(I)Z -/
theorem k_190_0 {X : GX} {d : Nat} {h : Hp} {v1 : Int32} {d' : Nat} {Q' : Int32 → Hp → Prop} (hdd : d' < d) (hC : CI d' 182 [.ref 84, .int v1, .int 4] h Q') (kk : ∀ x h', Q' x h' → G X d 190 6 [some (.ref 84), some (.int v1)] [.int x] h') : G X d 190 0 [some (.ref 84), some (.int v1)] [] h := by
  refine g_aload_n d_190_0 rfl rfl ?_
  refine g_iload_n d_190_1 rfl rfl ?_
  refine g_iconst (v := 4) d_190_2 (by decide) ?_
  exact g_callVI (mj := 182) 9 [.int v1, .int 4] [] d_190_3 wd_402 mo_182 mc_182 mv_182 rfl rfl rfl (Nat.le_of_ble_eq_true rfl) rfl hdd hC kk

theorem k_190_6 {X : GX} {d : Nat} {h : Hp} {v1 : Int32} {s0 : Int32} (kt : ¬ s0 = 0 → G X d 190 29 [none, none] [] h) (kf : s0 = 0 → G X d 190 9 [some (.ref 84), some (.int v1)] [] h) : G X d 190 6 [some (.ref 84), some (.int v1)] [.int s0] h := by
  exact g_if_ne (tgt := 29) d_190_6 (by decide) (fun q => g_mask [false, false] (kt q)) kf

theorem k_190_9 {X : GX} {d : Nat} {h : Hp} {v1 : Int32} {d' : Nat} {Q' : Int32 → Hp → Prop} (hdd : d' < d) (hC : CI d' 191 [.ref 84, .int v1] h Q') (kk : ∀ x h', Q' x h' → G X d 190 14 [some (.ref 84), some (.int v1)] [.int x] h') : G X d 190 9 [some (.ref 84), some (.int v1)] [] h := by
  refine g_aload_n d_190_9 rfl rfl ?_
  refine g_iload_n d_190_10 rfl rfl ?_
  exact g_callVI (mj := 191) 9 [.int v1] [] d_190_11 wd_411 mo_191 mc_191 mv_191 rfl rfl rfl (Nat.le_of_ble_eq_true rfl) rfl hdd hC kk

theorem k_190_14 {X : GX} {d : Nat} {h : Hp} {v1 : Int32} {s0 : Int32} (kt : ¬ s0 = 0 → G X d 190 29 [none, none] [] h) (kf : s0 = 0 → G X d 190 17 [some (.ref 84), some (.int v1)] [] h) : G X d 190 14 [some (.ref 84), some (.int v1)] [.int s0] h := by
  exact g_if_ne (tgt := 29) d_190_14 (by decide) (fun q => g_mask [false, false] (kt q)) kf

theorem k_190_17 {X : GX} {d : Nat} {h : Hp} {v1 : Int32} {d' : Nat} {Q' : Int32 → Hp → Prop} (hdd : d' < d) (hC : CI d' 181 [.ref 84, .int v1] h Q') (kk : ∀ x h', Q' x h' → G X d 190 22 [none, none] [.int x] h') : G X d 190 17 [some (.ref 84), some (.int v1)] [] h := by
  refine g_aload_n d_190_17 rfl rfl ?_
  refine g_iload_n d_190_18 rfl rfl ?_
  exact g_callVI (mj := 181) 9 [.int v1] [] d_190_19 wd_401 mo_181 mc_181 mv_181 rfl rfl rfl (Nat.le_of_ble_eq_true rfl) rfl hdd hC (fun x h' q => g_mask [false, false] (kk x h' q))

theorem k_190_22 {X : GX} {d : Nat} {h : Hp} {s0 : Int32} (kt : s0 ≤ 0 → G X d 190 29 [none, none] [] h) (kf : ¬ s0 ≤ 0 → G X d 190 25 [none, none] [] h) : G X d 190 22 [none, none] [.int s0] h := by
  exact g_if_le (tgt := 29) d_190_22 (by decide) kt kf

theorem k_190_25 {X : GX} {d : Nat} {h : Hp} (hq : RtX X (some (.int 1)) h) : G X d 190 25 [none, none] [] h := by
  refine g_iconst (v := 1) d_190_25 (by decide) ?_
  refine g_goto (tgt := 30) d_190_26 (by decide) ?_
  exact g_retz d_190_30 rfl z01_1 hq

theorem k_190_29 {X : GX} {d : Nat} {h : Hp} (hq : RtX X (some (.int 0)) h) : G X d 190 29 [none, none] [] h := by
  refine g_iconst (v := 0) d_190_29 (by decide) ?_
  exact g_retz d_190_30 rfl z01_0 hq

/-! 191 PlayedTruthModel.will(I)I -/
theorem k_191_0 {X : GX} {d : Nat} {h : Hp} {v1 : Int32} (kk : G X d 191 2 [some (.ref 84), some (.int v1), some (.int 0), none] [] h) : G X d 191 0 [some (.ref 84), some (.int v1), none, none] [] h := by
  refine g_iconst (v := 0) d_191_0 (by decide) ?_
  refine g_istore_n d_191_1 rfl (Nat.le_of_ble_eq_true rfl) rfl ?_
  exact kk

theorem k_191_2 {X : GX} {d : Nat} {h : Hp} {v1 : Int32} {v2 : Int32} (b0 : IA 85 5) (kt : (h 85 (Int32.toNatClampNeg 5)) ≤ v2 → G X d 191 105 [none, none, none, none] [] h) (kf : ¬ (h 85 (Int32.toNatClampNeg 5)) ≤ v2 → G X d 191 12 [some (.ref 84), some (.int v1), some (.int v2), none] [] h) : G X d 191 2 [some (.ref 84), some (.int v1), some (.int v2), none] [] h := by
  refine g_iload_n d_191_2 rfl rfl ?_
  refine g_aload_n d_191_3 rfl rfl ?_
  refine g_getf (ci := 9) (k := 0) d_191_4 wd_355 (Nat.le_of_ble_eq_true rfl) rfl rfl ?_
  refine g_iconst (v := 5) d_191_7 (by decide) ?_
  refine g_iald d_191_8 b0 ?_
  exact g_icmp_ge (tgt := 105) d_191_9 (by decide) (fun q => g_mask [false, false, false, false] (kt q)) kf

theorem k_191_12 {X : GX} {d : Nat} {h : Hp} {v1 : Int32} {v2 : Int32} (b0 : IA 85 (89 + (4 * v2))) (kt : (h 85 (Int32.toNatClampNeg (89 + (4 * v2)))) = 0 → G X d 191 51 [some (.ref 84), some (.int v1), some (.int v2), none] [] h) (kf : ¬ (h 85 (Int32.toNatClampNeg (89 + (4 * v2)))) = 0 → G X d 191 28 [some (.ref 84), some (.int v1), some (.int v2), some (.int (h 85 (Int32.toNatClampNeg (89 + (4 * v2)))))] [] h) : G X d 191 12 [some (.ref 84), some (.int v1), some (.int v2), none] [] h := by
  refine g_aload_n d_191_12 rfl rfl ?_
  refine g_getf (ci := 9) (k := 0) d_191_13 wd_355 (Nat.le_of_ble_eq_true rfl) rfl rfl ?_
  refine g_bipush (v := 89) d_191_16 (by decide) ?_
  refine g_iconst (v := 4) d_191_18 (by decide) ?_
  refine g_iload_n d_191_19 rfl rfl ?_
  refine g_imul d_191_20 ?_
  refine g_iadd d_191_21 ?_
  refine g_iald d_191_22 b0 ?_
  refine g_istore_n d_191_23 rfl (Nat.le_of_ble_eq_true rfl) rfl ?_
  refine g_iload_n d_191_24 rfl rfl ?_
  exact g_if_eq (tgt := 51) d_191_25 (by decide) (fun q => g_mask [true, true, true, false] (kt q)) kf

theorem k_191_28 {X : GX} {d : Nat} {h : Hp} {v1 : Int32} {v2 : Int32} {v3 : Int32} {d' : Nat} {Q' : Int32 → Hp → Prop} (hdd : d' < d) (hC : CI d' 182 [.ref 84, .int v1, .int 0] h Q') (kk : ∀ x h', Q' x h' → G X d 191 35 [some (.ref 84), some (.int v1), some (.int v2), some (.int v3)] [.int x, .int v3] h') : G X d 191 28 [some (.ref 84), some (.int v1), some (.int v2), some (.int v3)] [] h := by
  refine g_iload_n d_191_28 rfl rfl ?_
  refine g_aload_n d_191_29 rfl rfl ?_
  refine g_iload_n d_191_30 rfl rfl ?_
  refine g_iconst (v := 0) d_191_31 (by decide) ?_
  exact g_callVI (mj := 182) 9 [.int v1, .int 0] [.int v3] d_191_32 wd_402 mo_182 mc_182 mv_182 rfl rfl rfl (Nat.le_of_ble_eq_true rfl) rfl hdd hC kk

theorem k_191_35 {X : GX} {d : Nat} {h : Hp} {v1 : Int32} {v2 : Int32} {v3 : Int32} {s0 : Int32} {s1 : Int32} (kt : s1 = s0 → G X d 191 51 [some (.ref 84), some (.int v1), some (.int v2), none] [] h) (kf : ¬ s1 = s0 → G X d 191 38 [some (.ref 84), some (.int v1), some (.int v2), some (.int v3)] [] h) : G X d 191 35 [some (.ref 84), some (.int v1), some (.int v2), some (.int v3)] [.int s0, .int s1] h := by
  exact g_icmp_eq (tgt := 51) d_191_35 (by decide) (fun q => g_mask [true, true, true, false] (kt q)) kf

theorem k_191_38 {X : GX} {d : Nat} {h : Hp} {v1 : Int32} {v2 : Int32} {v3 : Int32} {d' : Nat} {Q' : Int32 → Hp → Prop} (hdd : d' < d) (hC : CI d' 182 [.ref 84, .int v1, .int 0] h Q') (kk : ∀ x h', Q' x h' → G X d 191 45 [some (.ref 84), some (.int v1), some (.int v2), none] [.int x, .int v3] h') : G X d 191 38 [some (.ref 84), some (.int v1), some (.int v2), some (.int v3)] [] h := by
  refine g_iload_n d_191_38 rfl rfl ?_
  refine g_aload_n d_191_39 rfl rfl ?_
  refine g_iload_n d_191_40 rfl rfl ?_
  refine g_iconst (v := 0) d_191_41 (by decide) ?_
  exact g_callVI (mj := 182) 9 [.int v1, .int 0] [.int v3] d_191_42 wd_402 mo_182 mc_182 mv_182 rfl rfl rfl (Nat.le_of_ble_eq_true rfl) rfl hdd hC (fun x h' q => g_mask [true, true, true, false] (kk x h' q))

theorem k_191_45 {X : GX} {d : Nat} {h : Hp} {v1 : Int32} {v2 : Int32} {s0 : Int32} {s1 : Int32} {d' : Nat} {Q' : Int32 → Hp → Prop} (hdd : d' < d) (hC : CI d' 192 [.int s0] h Q') (kk : ∀ x h', Q' x h' → G X d 191 48 [some (.ref 84), some (.int v1), some (.int v2), none] [.int x, .int s1] h') : G X d 191 45 [some (.ref 84), some (.int v1), some (.int v2), none] [.int s0, .int s1] h := by
  exact g_callSI (mj := 192) [.int s0] [.int s1] d_191_45 wd_412 mo_192 mc_192 mv_192 rfl rfl (Nat.le_of_ble_eq_true rfl)  hdd hC kk

theorem k_191_48 {X : GX} {d : Nat} {h : Hp} {v1 : Int32} {v2 : Int32} {s0 : Int32} {s1 : Int32} (kt : ¬ s1 = s0 → G X d 191 99 [some (.ref 84), some (.int v1), some (.int v2), none] [] h) (kf : s1 = s0 → G X d 191 51 [some (.ref 84), some (.int v1), some (.int v2), none] [] h) : G X d 191 48 [some (.ref 84), some (.int v1), some (.int v2), none] [.int s0, .int s1] h := by
  exact g_icmp_ne (tgt := 99) d_191_48 (by decide) kt kf

theorem k_191_51 {X : GX} {d : Nat} {h : Hp} {v1 : Int32} {v2 : Int32} {d' : Nat} {Q' : Int32 → Hp → Prop} (b0 : IA 85 ((89 + (4 * v2)) + 2)) (b1 : IA 85 ((89 + (4 * v2)) + 3)) (hdd : d' < d) (hC : CI d' 193 [.ref 84, .int (h 85 (Int32.toNatClampNeg ((89 + (4 * v2)) + 2))), .int (h 85 (Int32.toNatClampNeg ((89 + (4 * v2)) + 3))), .int v1] h Q') (kk : ∀ x h', Q' x h' → G X d 191 82 [some (.ref 84), some (.int v1), some (.int v2), none] [.int x] h') : G X d 191 51 [some (.ref 84), some (.int v1), some (.int v2), none] [] h := by
  refine g_aload_n d_191_51 rfl rfl ?_
  refine g_aload_n d_191_52 rfl rfl ?_
  refine g_getf (ci := 9) (k := 0) d_191_53 wd_355 (Nat.le_of_ble_eq_true rfl) rfl rfl ?_
  refine g_bipush (v := 89) d_191_56 (by decide) ?_
  refine g_iconst (v := 4) d_191_58 (by decide) ?_
  refine g_iload_n d_191_59 rfl rfl ?_
  refine g_imul d_191_60 ?_
  refine g_iadd d_191_61 ?_
  refine g_iconst (v := 2) d_191_62 (by decide) ?_
  refine g_iadd d_191_63 ?_
  refine g_iald d_191_64 b0 ?_
  refine g_aload_n d_191_65 rfl rfl ?_
  refine g_getf (ci := 9) (k := 0) d_191_66 wd_355 (Nat.le_of_ble_eq_true rfl) rfl rfl ?_
  refine g_bipush (v := 89) d_191_69 (by decide) ?_
  refine g_iconst (v := 4) d_191_71 (by decide) ?_
  refine g_iload_n d_191_72 rfl rfl ?_
  refine g_imul d_191_73 ?_
  refine g_iadd d_191_74 ?_
  refine g_iconst (v := 3) d_191_75 (by decide) ?_
  refine g_iadd d_191_76 ?_
  refine g_iald d_191_77 b1 ?_
  refine g_iload_n d_191_78 rfl rfl ?_
  exact g_callVI (mj := 193) 9 [.int (h 85 (Int32.toNatClampNeg ((89 + (4 * v2)) + 2))), .int (h 85 (Int32.toNatClampNeg ((89 + (4 * v2)) + 3))), .int v1] [] d_191_79 wd_413 mo_193 mc_193 mv_193 rfl rfl rfl (Nat.le_of_ble_eq_true rfl) rfl hdd hC kk

theorem k_191_82 {X : GX} {d : Nat} {h : Hp} {v1 : Int32} {v2 : Int32} {s0 : Int32} (kt : s0 = 0 → G X d 191 99 [some (.ref 84), some (.int v1), some (.int v2), none] [] h) (kf : ¬ s0 = 0 → G X d 191 85 [some (.ref 84), none, some (.int v2), none] [] h) : G X d 191 82 [some (.ref 84), some (.int v1), some (.int v2), none] [.int s0] h := by
  exact g_if_eq (tgt := 99) d_191_82 (by decide) kt (fun q => g_mask [true, false, true, false] (kf q))

theorem k_191_85 {X : GX} {d : Nat} {h : Hp} {v2 : Int32} (b0 : IA 85 ((89 + (4 * v2)) + 1)) (hq : RtX X (some (.int (h 85 (Int32.toNatClampNeg ((89 + (4 * v2)) + 1))))) h) : G X d 191 85 [some (.ref 84), none, some (.int v2), none] [] h := by
  refine g_aload_n d_191_85 rfl rfl ?_
  refine g_getf (ci := 9) (k := 0) d_191_86 wd_355 (Nat.le_of_ble_eq_true rfl) rfl rfl ?_
  refine g_bipush (v := 89) d_191_89 (by decide) ?_
  refine g_iconst (v := 4) d_191_91 (by decide) ?_
  refine g_iload_n d_191_92 rfl rfl ?_
  refine g_imul d_191_93 ?_
  refine g_iadd d_191_94 ?_
  refine g_iconst (v := 1) d_191_95 (by decide) ?_
  refine g_iadd d_191_96 ?_
  refine g_iald d_191_97 b0 ?_
  exact g_reti d_191_98 rfl hq

theorem k_191_99 {X : GX} {d : Nat} {h : Hp} {v1 : Int32} {v2 : Int32} (kk : G X d 191 2 [some (.ref 84), some (.int v1), some (.int (v2 + 1)), none] [] h) : G X d 191 99 [some (.ref 84), some (.int v1), some (.int v2), none] [] h := by
  refine g_iinc (w := 1) d_191_99 rfl (by decide) (Nat.le_of_ble_eq_true rfl) rfl ?_
  refine g_goto (tgt := 2) d_191_102 (by decide) ?_
  exact kk

theorem k_191_105 {X : GX} {d : Nat} {h : Hp} (hq : RtX X (some (.int 0)) h) : G X d 191 105 [none, none, none, none] [] h := by
  refine g_iconst (v := 0) d_191_105 (by decide) ?_
  exact g_reti d_191_106 rfl hq

/-! 192 PlayedTruthModel.above(I)I -/
theorem k_192_0 {X : GX} {d : Nat} {h : Hp} {v0 : Int32} (kt : ¬ v0 = 3 → G X d 192 9 [some (.int v0)] [] h) (kf : v0 = 3 → G X d 192 5 [none] [] h) : G X d 192 0 [some (.int v0)] [] h := by
  refine g_iload_n d_192_0 rfl rfl ?_
  refine g_iconst (v := 3) d_192_1 (by decide) ?_
  exact g_icmp_ne (tgt := 9) d_192_2 (by decide) kt (fun q => g_mask [false] (kf q))

theorem k_192_5 {X : GX} {d : Nat} {h : Hp} (hq : RtX X (some (.int 2)) h) : G X d 192 5 [none] [] h := by
  refine g_iconst (v := 2) d_192_5 (by decide) ?_
  refine g_goto (tgt := 19) d_192_6 (by decide) ?_
  exact g_reti d_192_19 rfl hq

theorem k_192_9 {X : GX} {d : Nat} {h : Hp} {v0 : Int32} (kt : ¬ v0 = 5 → G X d 192 18 [none] [] h) (kf : v0 = 5 → G X d 192 14 [none] [] h) : G X d 192 9 [some (.int v0)] [] h := by
  refine g_iload_n d_192_9 rfl rfl ?_
  refine g_iconst (v := 5) d_192_10 (by decide) ?_
  exact g_icmp_ne (tgt := 18) d_192_11 (by decide) (fun q => g_mask [false] (kt q)) (fun q => g_mask [false] (kf q))

theorem k_192_14 {X : GX} {d : Nat} {h : Hp} (hq : RtX X (some (.int 4)) h) : G X d 192 14 [none] [] h := by
  refine g_iconst (v := 4) d_192_14 (by decide) ?_
  refine g_goto (tgt := 19) d_192_15 (by decide) ?_
  exact g_reti d_192_19 rfl hq

theorem k_192_18 {X : GX} {d : Nat} {h : Hp} (hq : RtX X (some (.int 0)) h) : G X d 192 18 [none] [] h := by
  refine g_iconst (v := 0) d_192_18 (by decide) ?_
  exact g_reti d_192_19 rfl hq

/-! 193 PlayedTruthModel.holds(III)Z -/
theorem k_193_0 {X : GX} {d : Nat} {h : Hp} {v1 : Int32} {v2 : Int32} {v3 : Int32} (kt : ¬ v1 = v2 → G X d 193 7 [some (.ref 84), some (.int v1), some (.int v2), some (.int v3), none, none, none] [] h) (kf : v1 = v2 → G X d 193 5 [none, none, none, none, none, none, none] [] h) : G X d 193 0 [some (.ref 84), some (.int v1), some (.int v2), some (.int v3), none, none, none] [] h := by
  refine g_iload_n d_193_0 rfl rfl ?_
  refine g_iload_n d_193_1 rfl rfl ?_
  exact g_icmp_ne (tgt := 7) d_193_2 (by decide) kt (fun q => g_mask [false, false, false, false, false, false, false] (kf q))

theorem k_193_5 {X : GX} {d : Nat} {h : Hp} (hq : RtX X (some (.int 1)) h) : G X d 193 5 [none, none, none, none, none, none, none] [] h := by
  refine g_iconst (v := 1) d_193_5 (by decide) ?_
  exact g_retz d_193_6 rfl z01_1 hq

theorem k_193_7 {X : GX} {d : Nat} {h : Hp} {v1 : Int32} {v2 : Int32} {v3 : Int32} (kk : G X d 193 13 [some (.ref 84), none, some (.int v2), some (.int v3), some (.int 0), some (.int v1), none] [] h) : G X d 193 7 [some (.ref 84), some (.int v1), some (.int v2), some (.int v3), none, none, none] [] h := by
  refine g_iconst (v := 0) d_193_7 (by decide) ?_
  refine g_istore d_193_8 (Nat.le_of_ble_eq_true rfl) rfl ?_
  refine g_iload_n d_193_10 rfl rfl ?_
  refine g_istore d_193_11 (Nat.le_of_ble_eq_true rfl) rfl ?_
  exact g_mask [true, false, true, true, true, true, false] kk

theorem k_193_13 {X : GX} {d : Nat} {h : Hp} {v2 : Int32} {v3 : Int32} {v4 : Int32} {v5 : Int32} (kt : v2 ≤ v5 → G X d 193 150 [some (.ref 84), none, none, none, none, none, none] [] h) (kf : ¬ v2 ≤ v5 → G X d 193 19 [some (.ref 84), none, some (.int v2), some (.int v3), some (.int v4), some (.int v5), none] [] h) : G X d 193 13 [some (.ref 84), none, some (.int v2), some (.int v3), some (.int v4), some (.int v5), none] [] h := by
  refine g_iload d_193_13 rfl ?_
  refine g_iload_n d_193_15 rfl rfl ?_
  exact g_icmp_ge (tgt := 150) d_193_16 (by decide) (fun q => g_mask [true, false, false, false, false, false, false] (kt q)) kf

theorem k_193_19 {X : GX} {d : Nat} {h : Hp} {v2 : Int32} {v3 : Int32} {v4 : Int32} {v5 : Int32} (b0 : IA 85 (121 + v5)) (kt : 20000 ≤ (h 85 (Int32.toNatClampNeg (121 + v5))) → G X d 193 76 [some (.ref 84), none, some (.int v2), some (.int v3), some (.int v4), some (.int v5), some (.int (h 85 (Int32.toNatClampNeg (121 + v5))))] [] h) (kf : ¬ 20000 ≤ (h 85 (Int32.toNatClampNeg (121 + v5))) → G X d 193 39 [some (.ref 84), none, some (.int v2), some (.int v3), some (.int v4), some (.int v5), some (.int (h 85 (Int32.toNatClampNeg (121 + v5))))] [] h) : G X d 193 19 [some (.ref 84), none, some (.int v2), some (.int v3), some (.int v4), some (.int v5), none] [] h := by
  refine g_aload_n d_193_19 rfl rfl ?_
  refine g_getf (ci := 9) (k := 0) d_193_20 wd_355 (Nat.le_of_ble_eq_true rfl) rfl rfl ?_
  refine g_bipush (v := 121) d_193_23 (by decide) ?_
  refine g_iload d_193_25 rfl ?_
  refine g_iadd d_193_27 ?_
  refine g_iald d_193_28 b0 ?_
  refine g_istore d_193_29 (Nat.le_of_ble_eq_true rfl) rfl ?_
  refine g_iload d_193_31 rfl ?_
  refine g_sipush (v := 20000) d_193_33 (by decide) ?_
  exact g_icmp_ge (tgt := 76) d_193_36 (by decide) kt kf

theorem k_193_39 {X : GX} {d : Nat} {h : Hp} {v2 : Int32} {v3 : Int32} {v4 : Int32} {v5 : Int32} {v6 : Int32} (kt : 10000 ≤ v6 → G X d 193 58 [some (.ref 84), none, some (.int v2), some (.int v3), some (.int v4), some (.int v5), some (.int v6)] [.int v4, .ref 88] h) (kf : ¬ 10000 ≤ v6 → G X d 193 53 [some (.ref 84), none, some (.int v2), some (.int v3), some (.int v4), some (.int v5), some (.int v6)] [.int v4, .ref 88] h) : G X d 193 39 [some (.ref 84), none, some (.int v2), some (.int v3), some (.int v4), some (.int v5), some (.int v6)] [] h := by
  refine g_aload_n d_193_39 rfl rfl ?_
  refine g_getf (ci := 9) (k := 5) d_193_40 wd_360 (Nat.le_of_ble_eq_true rfl) rfl rfl ?_
  refine g_iload d_193_43 rfl ?_
  refine g_iload d_193_45 rfl ?_
  refine g_sipush (v := 10000) d_193_47 (by decide) ?_
  exact g_icmp_ge (tgt := 58) d_193_50 (by decide) kt kf

theorem k_193_53 {X : GX} {d : Nat} {h : Hp} {v2 : Int32} {v3 : Int32} {v4 : Int32} {v5 : Int32} {v6 : Int32} {s0 : Int32} {s1 : Nat} (b0 : IA s1 s0) (kk : G X d 193 13 [some (.ref 84), none, some (.int v2), some (.int v3), some (.int (v4 + 1)), some (.int (v5 + 1)), none] [] (wr h s1 (Int32.toNatClampNeg s0) v6)) : G X d 193 53 [some (.ref 84), none, some (.int v2), some (.int v3), some (.int v4), some (.int v5), some (.int v6)] [.int s0, .ref s1] h := by
  refine g_iload d_193_53 rfl ?_
  refine g_goto (tgt := 69) d_193_55 (by decide) ?_
  refine g_iast d_193_69 b0 ?_
  refine g_iinc (w := 1) d_193_70 rfl (by decide) (Nat.le_of_ble_eq_true rfl) rfl ?_
  refine g_goto (tgt := 144) d_193_73 (by decide) ?_
  refine g_iinc (w := 1) d_193_144 rfl (by decide) (Nat.le_of_ble_eq_true rfl) rfl ?_
  refine g_goto (tgt := 13) d_193_147 (by decide) ?_
  exact g_mask [true, false, true, true, true, true, false] kk

theorem k_193_58 {X : GX} {d : Nat} {h : Hp} {v2 : Int32} {v3 : Int32} {v4 : Int32} {v5 : Int32} {v6 : Int32} {s0 : Int32} {s1 : Nat} {d' : Nat} {Q' : Int32 → Hp → Prop} (hdd : d' < d) (hC : CI d' 194 [.ref 84, .int (v6 - 10000), .int v3] h Q') (kk : ∀ x h', Q' x h' → G X d 193 69 [some (.ref 84), none, some (.int v2), some (.int v3), some (.int v4), some (.int v5), none] [.int x, .int s0, .ref s1] h') : G X d 193 58 [some (.ref 84), none, some (.int v2), some (.int v3), some (.int v4), some (.int v5), some (.int v6)] [.int s0, .ref s1] h := by
  refine g_aload_n d_193_58 rfl rfl ?_
  refine g_iload d_193_59 rfl ?_
  refine g_sipush (v := 10000) d_193_61 (by decide) ?_
  refine g_isub d_193_64 ?_
  refine g_iload_n d_193_65 rfl rfl ?_
  exact g_callVI (mj := 194) 9 [.int (v6 - 10000), .int v3] [.int s0, .ref s1] d_193_66 wd_414 mo_194 mc_194 mv_194 rfl rfl rfl (Nat.le_of_ble_eq_true rfl) rfl hdd hC (fun x h' q => g_mask [true, false, true, true, true, true, false] (kk x h' q))

theorem k_193_69 {X : GX} {d : Nat} {h : Hp} {v2 : Int32} {v3 : Int32} {v4 : Int32} {v5 : Int32} {s0 : Int32} {s1 : Int32} {s2 : Nat} (b0 : IA s2 s1) (kk : G X d 193 13 [some (.ref 84), none, some (.int v2), some (.int v3), some (.int (v4 + 1)), some (.int (v5 + 1)), none] [] (wr h s2 (Int32.toNatClampNeg s1) s0)) : G X d 193 69 [some (.ref 84), none, some (.int v2), some (.int v3), some (.int v4), some (.int v5), none] [.int s0, .int s1, .ref s2] h := by
  refine g_iast d_193_69 b0 ?_
  refine g_iinc (w := 1) d_193_70 rfl (by decide) (Nat.le_of_ble_eq_true rfl) rfl ?_
  refine g_goto (tgt := 144) d_193_73 (by decide) ?_
  refine g_iinc (w := 1) d_193_144 rfl (by decide) (Nat.le_of_ble_eq_true rfl) rfl ?_
  refine g_goto (tgt := 13) d_193_147 (by decide) ?_
  exact kk

theorem k_193_76 {X : GX} {d : Nat} {h : Hp} {v2 : Int32} {v3 : Int32} {v4 : Int32} {v5 : Int32} {v6 : Int32} (kt : ¬ v6 = 20033 → G X d 193 107 [some (.ref 84), none, some (.int v2), some (.int v3), some (.int v4), some (.int v5), some (.int v6)] [] h) (kf : v6 = 20033 → G X d 193 84 [some (.ref 84), none, some (.int v2), some (.int v3), some (.int v4), some (.int v5), none] [] h) : G X d 193 76 [some (.ref 84), none, some (.int v2), some (.int v3), some (.int v4), some (.int v5), some (.int v6)] [] h := by
  refine g_iload d_193_76 rfl ?_
  refine g_sipush (v := 20033) d_193_78 (by decide) ?_
  exact g_icmp_ne (tgt := 107) d_193_81 (by decide) kt (fun q => g_mask [true, false, true, true, true, true, false] (kf q))

theorem k_193_84 {X : GX} {d : Nat} {h : Hp} {v2 : Int32} {v3 : Int32} {v4 : Int32} {v5 : Int32} (b0 : IA 88 (v4 - 1)) (kk : G X d 193 13 [some (.ref 84), none, some (.int v2), some (.int v3), some (.int v4), some (.int (v5 + 1)), none] [] (wr h 88 (Int32.toNatClampNeg (v4 - 1)) (1 - (h 88 (Int32.toNatClampNeg (v4 - 1)))))) : G X d 193 84 [some (.ref 84), none, some (.int v2), some (.int v3), some (.int v4), some (.int v5), none] [] h := by
  refine g_aload_n d_193_84 rfl rfl ?_
  refine g_getf (ci := 9) (k := 5) d_193_85 wd_360 (Nat.le_of_ble_eq_true rfl) rfl rfl ?_
  refine g_iload d_193_88 rfl ?_
  refine g_iconst (v := 1) d_193_90 (by decide) ?_
  refine g_isub d_193_91 ?_
  refine g_iconst (v := 1) d_193_92 (by decide) ?_
  refine g_aload_n d_193_93 rfl rfl ?_
  refine g_getf (ci := 9) (k := 5) d_193_94 wd_360 (Nat.le_of_ble_eq_true rfl) rfl rfl ?_
  refine g_iload d_193_97 rfl ?_
  refine g_iconst (v := 1) d_193_99 (by decide) ?_
  refine g_isub d_193_100 ?_
  refine g_iald d_193_101 b0 ?_
  refine g_isub d_193_102 ?_
  refine g_iast d_193_103 b0 ?_
  refine g_goto (tgt := 144) d_193_104 (by decide) ?_
  refine g_iinc (w := 1) d_193_144 rfl (by decide) (Nat.le_of_ble_eq_true rfl) rfl ?_
  refine g_goto (tgt := 13) d_193_147 (by decide) ?_
  exact kk

theorem k_193_107 {X : GX} {d : Nat} {h : Hp} {v2 : Int32} {v3 : Int32} {v4 : Int32} {v5 : Int32} {v6 : Int32} {d' : Nat} {Q' : Int32 → Hp → Prop} (b0 : IA 88 ((v4 + (-1)) - 1)) (b1 : IA 88 (v4 + (-1))) (hdd : d' < d) (hC : CI d' 195 [.int (v6 - 20000), .int (h 88 (Int32.toNatClampNeg ((v4 + (-1)) - 1))), .int (h 88 (Int32.toNatClampNeg (v4 + (-1))))] h Q') (kk : ∀ x h', Q' x h' → G X d 193 143 [some (.ref 84), none, some (.int v2), some (.int v3), some (.int (v4 + (-1))), some (.int v5), none] [.int x, .int ((v4 + (-1)) - 1), .ref 88] h') : G X d 193 107 [some (.ref 84), none, some (.int v2), some (.int v3), some (.int v4), some (.int v5), some (.int v6)] [] h := by
  refine g_iinc (w := (-1)) d_193_107 rfl (by decide) (Nat.le_of_ble_eq_true rfl) rfl ?_
  refine g_aload_n d_193_110 rfl rfl ?_
  refine g_getf (ci := 9) (k := 5) d_193_111 wd_360 (Nat.le_of_ble_eq_true rfl) rfl rfl ?_
  refine g_iload d_193_114 rfl ?_
  refine g_iconst (v := 1) d_193_116 (by decide) ?_
  refine g_isub d_193_117 ?_
  refine g_iload d_193_118 rfl ?_
  refine g_sipush (v := 20000) d_193_120 (by decide) ?_
  refine g_isub d_193_123 ?_
  refine g_aload_n d_193_124 rfl rfl ?_
  refine g_getf (ci := 9) (k := 5) d_193_125 wd_360 (Nat.le_of_ble_eq_true rfl) rfl rfl ?_
  refine g_iload d_193_128 rfl ?_
  refine g_iconst (v := 1) d_193_130 (by decide) ?_
  refine g_isub d_193_131 ?_
  refine g_iald d_193_132 b0 ?_
  refine g_aload_n d_193_133 rfl rfl ?_
  refine g_getf (ci := 9) (k := 5) d_193_134 wd_360 (Nat.le_of_ble_eq_true rfl) rfl rfl ?_
  refine g_iload d_193_137 rfl ?_
  refine g_iald d_193_139 b1 ?_
  exact g_callSI (mj := 195) [.int (v6 - 20000), .int (h 88 (Int32.toNatClampNeg ((v4 + (-1)) - 1))), .int (h 88 (Int32.toNatClampNeg (v4 + (-1))))] [.int ((v4 + (-1)) - 1), .ref 88] d_193_140 wd_415 mo_195 mc_195 mv_195 rfl rfl (Nat.le_of_ble_eq_true rfl)  hdd hC (fun x h' q => g_mask [true, false, true, true, true, true, false] (kk x h' q))

theorem k_193_143 {X : GX} {d : Nat} {h : Hp} {v2 : Int32} {v3 : Int32} {v4 : Int32} {v5 : Int32} {s0 : Int32} {s1 : Int32} {s2 : Nat} (b0 : IA s2 s1) (kk : G X d 193 13 [some (.ref 84), none, some (.int v2), some (.int v3), some (.int v4), some (.int (v5 + 1)), none] [] (wr h s2 (Int32.toNatClampNeg s1) s0)) : G X d 193 143 [some (.ref 84), none, some (.int v2), some (.int v3), some (.int v4), some (.int v5), none] [.int s0, .int s1, .ref s2] h := by
  refine g_iast d_193_143 b0 ?_
  refine g_iinc (w := 1) d_193_144 rfl (by decide) (Nat.le_of_ble_eq_true rfl) rfl ?_
  refine g_goto (tgt := 13) d_193_147 (by decide) ?_
  exact kk

theorem k_193_150 {X : GX} {d : Nat} {h : Hp} (b0 : IA 88 0) (kt : ¬ (h 88 (Int32.toNatClampNeg 0)) = 1 → G X d 193 164 [none, none, none, none, none, none, none] [] h) (kf : (h 88 (Int32.toNatClampNeg 0)) = 1 → G X d 193 160 [none, none, none, none, none, none, none] [] h) : G X d 193 150 [some (.ref 84), none, none, none, none, none, none] [] h := by
  refine g_aload_n d_193_150 rfl rfl ?_
  refine g_getf (ci := 9) (k := 5) d_193_151 wd_360 (Nat.le_of_ble_eq_true rfl) rfl rfl ?_
  refine g_iconst (v := 0) d_193_154 (by decide) ?_
  refine g_iald d_193_155 b0 ?_
  refine g_iconst (v := 1) d_193_156 (by decide) ?_
  exact g_icmp_ne (tgt := 164) d_193_157 (by decide) (fun q => g_mask [false, false, false, false, false, false, false] (kt q)) (fun q => g_mask [false, false, false, false, false, false, false] (kf q))

theorem k_193_160 {X : GX} {d : Nat} {h : Hp} (hq : RtX X (some (.int 1)) h) : G X d 193 160 [none, none, none, none, none, none, none] [] h := by
  refine g_iconst (v := 1) d_193_160 (by decide) ?_
  refine g_goto (tgt := 165) d_193_161 (by decide) ?_
  exact g_retz d_193_165 rfl z01_1 hq

theorem k_193_164 {X : GX} {d : Nat} {h : Hp} (hq : RtX X (some (.int 0)) h) : G X d 193 164 [none, none, none, none, none, none, none] [] h := by
  refine g_iconst (v := 0) d_193_164 (by decide) ?_
  exact g_retz d_193_165 rfl z01_0 hq

/-! 194 PlayedTruthModel.factOf(II)I -/
theorem k_194_0 {X : GX} {d : Nat} {h : Hp} {v1 : Int32} {v2 : Int32} (k0 : v1 = 0 → G X d 194 32 [some (.ref 84), none, none] [] h) (k1 : v1 = 1 → G X d 194 39 [some (.ref 84), none, some (.int v2)] [] h) (k2 : v1 = 2 → G X d 194 46 [some (.ref 84), none, some (.int v2)] [] h) (k3 : v1 = 3 → G X d 194 53 [some (.ref 84), none, none] [] h) (kd : ¬ v1 = 0 → ¬ v1 = 1 → ¬ v1 = 2 → ¬ v1 = 3 → G X d 194 58 [none, none, some (.int v2)] [] h) : G X d 194 0 [some (.ref 84), some (.int v1), some (.int v2)] [] h := by
  refine g_iload_n d_194_0 rfl rfl ?_
  exact g_table (tls := [(0, 32), (1, 39), (2, 46), (3, 53)]) (df := 58) d_194_1 (by decide +kernel) ⟨fun q => g_mask [true, false, false] (k0 q), fun n0 => ⟨fun q => g_mask [true, false, true] (k1 q), fun n1 => ⟨fun q => g_mask [true, false, true] (k2 q), fun n2 => ⟨fun q => g_mask [true, false, false] (k3 q), fun n3 => (g_mask [false, false, true] (kd n0 n1 n2 n3))⟩⟩⟩⟩

theorem k_194_32 {X : GX} {d : Nat} {h : Hp} (b0 : IA 85 1) (hq : RtX X (some (.int (h 85 (Int32.toNatClampNeg 1)))) h) : G X d 194 32 [some (.ref 84), none, none] [] h := by
  refine g_aload_n d_194_32 rfl rfl ?_
  refine g_getf (ci := 9) (k := 0) d_194_33 wd_355 (Nat.le_of_ble_eq_true rfl) rfl rfl ?_
  refine g_iconst (v := 1) d_194_36 (by decide) ?_
  refine g_iald d_194_37 b0 ?_
  exact g_reti d_194_38 rfl hq

theorem k_194_39 {X : GX} {d : Nat} {h : Hp} {v2 : Int32} {d' : Nat} {Q' : Int32 → Hp → Prop} (hdd : d' < d) (hC : CI d' 182 [.ref 84, .int v2, .int 1] h Q') (kk : ∀ x h', Q' x h' → G X d 194 45 [none, none, none] [.int x] h') : G X d 194 39 [some (.ref 84), none, some (.int v2)] [] h := by
  refine g_aload_n d_194_39 rfl rfl ?_
  refine g_iload_n d_194_40 rfl rfl ?_
  refine g_iconst (v := 1) d_194_41 (by decide) ?_
  exact g_callVI (mj := 182) 9 [.int v2, .int 1] [] d_194_42 wd_402 mo_182 mc_182 mv_182 rfl rfl rfl (Nat.le_of_ble_eq_true rfl) rfl hdd hC (fun x h' q => g_mask [false, false, false] (kk x h' q))

theorem k_194_45 {X : GX} {d : Nat} {h : Hp} {s0 : Int32} (hq : RtX X (some (.int s0)) h) : G X d 194 45 [none, none, none] [.int s0] h := by
  exact g_reti d_194_45 rfl hq

theorem k_194_46 {X : GX} {d : Nat} {h : Hp} {v2 : Int32} {d' : Nat} {Q' : Int32 → Hp → Prop} (hdd : d' < d) (hC : CI d' 182 [.ref 84, .int v2, .int 2] h Q') (kk : ∀ x h', Q' x h' → G X d 194 52 [none, none, none] [.int x] h') : G X d 194 46 [some (.ref 84), none, some (.int v2)] [] h := by
  refine g_aload_n d_194_46 rfl rfl ?_
  refine g_iload_n d_194_47 rfl rfl ?_
  refine g_iconst (v := 2) d_194_48 (by decide) ?_
  exact g_callVI (mj := 182) 9 [.int v2, .int 2] [] d_194_49 wd_402 mo_182 mc_182 mv_182 rfl rfl rfl (Nat.le_of_ble_eq_true rfl) rfl hdd hC (fun x h' q => g_mask [false, false, false] (kk x h' q))

theorem k_194_52 {X : GX} {d : Nat} {h : Hp} {s0 : Int32} (hq : RtX X (some (.int s0)) h) : G X d 194 52 [none, none, none] [.int s0] h := by
  exact g_reti d_194_52 rfl hq

theorem k_194_53 {X : GX} {d : Nat} {h : Hp} {d' : Nat} {Q' : Int32 → Hp → Prop} (hdd : d' < d) (hC : CI d' 183 [.ref 84] h Q') (kk : ∀ x h', Q' x h' → G X d 194 57 [none, none, none] [.int x] h') : G X d 194 53 [some (.ref 84), none, none] [] h := by
  refine g_aload_n d_194_53 rfl rfl ?_
  exact g_callVI (mj := 183) 9 [] [] d_194_54 wd_403 mo_183 mc_183 mv_183 rfl rfl rfl (Nat.le_of_ble_eq_true rfl) rfl hdd hC (fun x h' q => g_mask [false, false, false] (kk x h' q))

theorem k_194_57 {X : GX} {d : Nat} {h : Hp} {s0 : Int32} (hq : RtX X (some (.int s0)) h) : G X d 194 57 [none, none, none] [.int s0] h := by
  exact g_reti d_194_57 rfl hq

theorem k_194_58 {X : GX} {d : Nat} {h : Hp} {v2 : Int32} (hq : RtX X (some (.int v2)) h) : G X d 194 58 [none, none, some (.int v2)] [] h := by
  refine g_iload_n d_194_58 rfl rfl ?_
  exact g_reti d_194_59 rfl hq

/-! 195 PlayedTruthModel.done(III)I -/
theorem k_195_0 {X : GX} {d : Nat} {h : Hp} {v0 : Int32} {v1 : Int32} {v2 : Int32} (k0 : v0 = 38 → G X d 195 77 [none, some (.int v1), some (.int v2)] [] h) (k1 : v0 = 60 → G X d 195 44 [none, some (.int v1), some (.int v2)] [] h) (k2 : v0 = 61 → G X d 195 55 [none, some (.int v1), some (.int v2)] [] h) (k3 : v0 = 62 → G X d 195 66 [none, some (.int v1), some (.int v2)] [] h) (kd : ¬ v0 = 38 → ¬ v0 = 60 → ¬ v0 = 61 → ¬ v0 = 62 → G X d 195 81 [none, some (.int v1), some (.int v2)] [] h) : G X d 195 0 [some (.int v0), some (.int v1), some (.int v2)] [] h := by
  refine g_iload_n d_195_0 rfl rfl ?_
  exact g_lookup (tls := [(38, 77), (60, 44), (61, 55), (62, 66)]) (df := 81) d_195_1 (by decide +kernel) ⟨fun q => g_mask [false, true, true] (k0 q), fun n0 => ⟨fun q => g_mask [false, true, true] (k1 q), fun n1 => ⟨fun q => g_mask [false, true, true] (k2 q), fun n2 => ⟨fun q => g_mask [false, true, true] (k3 q), fun n3 => (g_mask [false, true, true] (kd n0 n1 n2 n3))⟩⟩⟩⟩

theorem k_195_44 {X : GX} {d : Nat} {h : Hp} {v1 : Int32} {v2 : Int32} (kt : v2 ≤ v1 → G X d 195 53 [none, none, none] [] h) (kf : ¬ v2 ≤ v1 → G X d 195 49 [none, none, none] [] h) : G X d 195 44 [none, some (.int v1), some (.int v2)] [] h := by
  refine g_iload_n d_195_44 rfl rfl ?_
  refine g_iload_n d_195_45 rfl rfl ?_
  exact g_icmp_ge (tgt := 53) d_195_46 (by decide) (fun q => g_mask [false, false, false] (kt q)) (fun q => g_mask [false, false, false] (kf q))

theorem k_195_49 {X : GX} {d : Nat} {h : Hp} (hq : RtX X (some (.int 1)) h) : G X d 195 49 [none, none, none] [] h := by
  refine g_iconst (v := 1) d_195_49 (by decide) ?_
  refine g_goto (tgt := 54) d_195_50 (by decide) ?_
  exact g_reti d_195_54 rfl hq

theorem k_195_53 {X : GX} {d : Nat} {h : Hp} (hq : RtX X (some (.int 0)) h) : G X d 195 53 [none, none, none] [] h := by
  refine g_iconst (v := 0) d_195_53 (by decide) ?_
  exact g_reti d_195_54 rfl hq

theorem k_195_55 {X : GX} {d : Nat} {h : Hp} {v1 : Int32} {v2 : Int32} (kt : ¬ v1 = v2 → G X d 195 64 [none, none, none] [] h) (kf : v1 = v2 → G X d 195 60 [none, none, none] [] h) : G X d 195 55 [none, some (.int v1), some (.int v2)] [] h := by
  refine g_iload_n d_195_55 rfl rfl ?_
  refine g_iload_n d_195_56 rfl rfl ?_
  exact g_icmp_ne (tgt := 64) d_195_57 (by decide) (fun q => g_mask [false, false, false] (kt q)) (fun q => g_mask [false, false, false] (kf q))

theorem k_195_60 {X : GX} {d : Nat} {h : Hp} (hq : RtX X (some (.int 1)) h) : G X d 195 60 [none, none, none] [] h := by
  refine g_iconst (v := 1) d_195_60 (by decide) ?_
  refine g_goto (tgt := 65) d_195_61 (by decide) ?_
  exact g_reti d_195_65 rfl hq

theorem k_195_64 {X : GX} {d : Nat} {h : Hp} (hq : RtX X (some (.int 0)) h) : G X d 195 64 [none, none, none] [] h := by
  refine g_iconst (v := 0) d_195_64 (by decide) ?_
  exact g_reti d_195_65 rfl hq

theorem k_195_66 {X : GX} {d : Nat} {h : Hp} {v1 : Int32} {v2 : Int32} (kt : v1 ≤ v2 → G X d 195 75 [none, none, none] [] h) (kf : ¬ v1 ≤ v2 → G X d 195 71 [none, none, none] [] h) : G X d 195 66 [none, some (.int v1), some (.int v2)] [] h := by
  refine g_iload_n d_195_66 rfl rfl ?_
  refine g_iload_n d_195_67 rfl rfl ?_
  exact g_icmp_le (tgt := 75) d_195_68 (by decide) (fun q => g_mask [false, false, false] (kt q)) (fun q => g_mask [false, false, false] (kf q))

theorem k_195_71 {X : GX} {d : Nat} {h : Hp} (hq : RtX X (some (.int 1)) h) : G X d 195 71 [none, none, none] [] h := by
  refine g_iconst (v := 1) d_195_71 (by decide) ?_
  refine g_goto (tgt := 76) d_195_72 (by decide) ?_
  exact g_reti d_195_76 rfl hq

theorem k_195_75 {X : GX} {d : Nat} {h : Hp} (hq : RtX X (some (.int 0)) h) : G X d 195 75 [none, none, none] [] h := by
  refine g_iconst (v := 0) d_195_75 (by decide) ?_
  exact g_reti d_195_76 rfl hq

theorem k_195_77 {X : GX} {d : Nat} {h : Hp} {v1 : Int32} {v2 : Int32} (hq : RtX X (some (.int (v1 * v2))) h) : G X d 195 77 [none, some (.int v1), some (.int v2)] [] h := by
  refine g_iload_n d_195_77 rfl rfl ?_
  refine g_iload_n d_195_78 rfl rfl ?_
  refine g_imul d_195_79 ?_
  exact g_reti d_195_80 rfl hq

theorem k_195_81 {X : GX} {d : Nat} {h : Hp} {v1 : Int32} {v2 : Int32} (kt : (v1 + v2) ≤ 0 → G X d 195 91 [none, none, none] [] h) (kf : ¬ (v1 + v2) ≤ 0 → G X d 195 87 [none, none, none] [] h) : G X d 195 81 [none, some (.int v1), some (.int v2)] [] h := by
  refine g_iload_n d_195_81 rfl rfl ?_
  refine g_iload_n d_195_82 rfl rfl ?_
  refine g_iadd d_195_83 ?_
  exact g_if_le (tgt := 91) d_195_84 (by decide) (fun q => g_mask [false, false, false] (kt q)) (fun q => g_mask [false, false, false] (kf q))

theorem k_195_87 {X : GX} {d : Nat} {h : Hp} (hq : RtX X (some (.int 1)) h) : G X d 195 87 [none, none, none] [] h := by
  refine g_iconst (v := 1) d_195_87 (by decide) ?_
  refine g_goto (tgt := 92) d_195_88 (by decide) ?_
  exact g_reti d_195_92 rfl hq

theorem k_195_91 {X : GX} {d : Nat} {h : Hp} (hq : RtX X (some (.int 0)) h) : G X d 195 91 [none, none, none] [] h := by
  refine g_iconst (v := 0) d_195_91 (by decide) ?_
  exact g_reti d_195_92 rfl hq

/-! 196 PlayedTruthModel.change(III)I -/
theorem k_196_0 {X : GX} {d : Nat} {h : Hp} {v1 : Int32} {v2 : Int32} {v3 : Int32} (kt : ¬ v2 = 1 → G X d 196 17 [some (.ref 84), some (.int v1), some (.int v2), some (.int v3), none] [] h) (kf : v2 = 1 → G X d 196 5 [some (.ref 84), some (.int v1), some (.int v2), some (.int v3), none] [] h) : G X d 196 0 [some (.ref 84), some (.int v1), some (.int v2), some (.int v3), none] [] h := by
  refine g_iload_n d_196_0 rfl rfl ?_
  refine g_iconst (v := 1) d_196_1 (by decide) ?_
  exact g_icmp_ne (tgt := 17) d_196_2 (by decide) kt kf

theorem k_196_5 {X : GX} {d : Nat} {h : Hp} {v1 : Int32} {v2 : Int32} {v3 : Int32} {d' : Nat} {Q' : Int32 → Hp → Prop} (hdd : d' < d) (hC : CI d' 177 [.long (Int32.toInt64 v3), .long 0, .long 99] h Q') (kk : ∀ x h', Q' x h' → G X d 196 14 [some (.ref 84), some (.int v1), some (.int v2), some (.int v3), none] [.int x] h') : G X d 196 5 [some (.ref 84), some (.int v1), some (.int v2), some (.int v3), none] [] h := by
  refine g_iload_n d_196_5 rfl rfl ?_
  refine g_i2l d_196_6 ?_
  refine g_lconst (v := 0) d_196_7 (by decide) ?_
  refine g_ldc2_w (v := 99) d_196_8 wd_396 ?_
  exact g_callSI (mj := 177) [.long (Int32.toInt64 v3), .long 0, .long 99] [] d_196_11 wd_395 mo_177 mc_177 mv_177 rfl rfl (Nat.le_of_ble_eq_true rfl)  hdd hC kk

theorem k_196_14 {X : GX} {d : Nat} {h : Hp} {v1 : Int32} {v2 : Int32} {v3 : Int32} {s0 : Int32} {d' : Nat} {Q' : Int32 → Hp → Prop} (hdd : d' < d) (hC : CI d' 180 [.ref 84, .int v1] h Q') (kk : ∀ x h', Q' x h' → G X d 196 78 [some (.ref 84), some (.int v1), some (.int v2), some (.int v3), some (.int s0)] [.int x] h') : G X d 196 14 [some (.ref 84), some (.int v1), some (.int v2), some (.int v3), none] [.int s0] h := by
  refine g_goto (tgt := 71) d_196_14 (by decide) ?_
  refine g_istore d_196_71 (Nat.le_of_ble_eq_true rfl) rfl ?_
  refine g_aload_n d_196_73 rfl rfl ?_
  refine g_iload_n d_196_74 rfl rfl ?_
  exact g_callVI (mj := 180) 9 [.int v1] [] d_196_75 wd_400 mo_180 mc_180 mv_180 rfl rfl rfl (Nat.le_of_ble_eq_true rfl) rfl hdd hC kk

theorem k_196_17 {X : GX} {d : Nat} {h : Hp} {v1 : Int32} {v2 : Int32} {v3 : Int32} (kt : ¬ v2 = 2 → G X d 196 34 [some (.ref 84), some (.int v1), some (.int v2), some (.int v3), none] [] h) (kf : v2 = 2 → G X d 196 22 [some (.ref 84), some (.int v1), some (.int v2), some (.int v3), none] [] h) : G X d 196 17 [some (.ref 84), some (.int v1), some (.int v2), some (.int v3), none] [] h := by
  refine g_iload_n d_196_17 rfl rfl ?_
  refine g_iconst (v := 2) d_196_18 (by decide) ?_
  exact g_icmp_ne (tgt := 34) d_196_19 (by decide) kt kf

theorem k_196_22 {X : GX} {d : Nat} {h : Hp} {v1 : Int32} {v2 : Int32} {v3 : Int32} {d' : Nat} {Q' : Int32 → Hp → Prop} (hdd : d' < d) (hC : CI d' 177 [.long (Int32.toInt64 v3), .long 0, .long 9] h Q') (kk : ∀ x h', Q' x h' → G X d 196 31 [some (.ref 84), some (.int v1), some (.int v2), some (.int v3), none] [.int x] h') : G X d 196 22 [some (.ref 84), some (.int v1), some (.int v2), some (.int v3), none] [] h := by
  refine g_iload_n d_196_22 rfl rfl ?_
  refine g_i2l d_196_23 ?_
  refine g_lconst (v := 0) d_196_24 (by decide) ?_
  refine g_ldc2_w (v := 9) d_196_25 wd_397 ?_
  exact g_callSI (mj := 177) [.long (Int32.toInt64 v3), .long 0, .long 9] [] d_196_28 wd_395 mo_177 mc_177 mv_177 rfl rfl (Nat.le_of_ble_eq_true rfl)  hdd hC kk

theorem k_196_31 {X : GX} {d : Nat} {h : Hp} {v1 : Int32} {v2 : Int32} {v3 : Int32} {s0 : Int32} {d' : Nat} {Q' : Int32 → Hp → Prop} (hdd : d' < d) (hC : CI d' 180 [.ref 84, .int v1] h Q') (kk : ∀ x h', Q' x h' → G X d 196 78 [some (.ref 84), some (.int v1), some (.int v2), some (.int v3), some (.int s0)] [.int x] h') : G X d 196 31 [some (.ref 84), some (.int v1), some (.int v2), some (.int v3), none] [.int s0] h := by
  refine g_goto (tgt := 71) d_196_31 (by decide) ?_
  refine g_istore d_196_71 (Nat.le_of_ble_eq_true rfl) rfl ?_
  refine g_aload_n d_196_73 rfl rfl ?_
  refine g_iload_n d_196_74 rfl rfl ?_
  exact g_callVI (mj := 180) 9 [.int v1] [] d_196_75 wd_400 mo_180 mc_180 mv_180 rfl rfl rfl (Nat.le_of_ble_eq_true rfl) rfl hdd hC kk

theorem k_196_34 {X : GX} {d : Nat} {h : Hp} {v1 : Int32} {v2 : Int32} {v3 : Int32} (kt : ¬ v2 = 3 → G X d 196 51 [some (.ref 84), some (.int v1), some (.int v2), some (.int v3), none] [] h) (kf : v2 = 3 → G X d 196 39 [some (.ref 84), some (.int v1), some (.int v2), some (.int v3), none] [] h) : G X d 196 34 [some (.ref 84), some (.int v1), some (.int v2), some (.int v3), none] [] h := by
  refine g_iload_n d_196_34 rfl rfl ?_
  refine g_iconst (v := 3) d_196_35 (by decide) ?_
  exact g_icmp_ne (tgt := 51) d_196_36 (by decide) kt kf

theorem k_196_39 {X : GX} {d : Nat} {h : Hp} {v1 : Int32} {v2 : Int32} {v3 : Int32} {d' : Nat} {Q' : Int32 → Hp → Prop} (hdd : d' < d) (hC : CI d' 177 [.long (Int32.toInt64 v3), .long 0, .long 5] h Q') (kk : ∀ x h', Q' x h' → G X d 196 48 [some (.ref 84), some (.int v1), some (.int v2), some (.int v3), none] [.int x] h') : G X d 196 39 [some (.ref 84), some (.int v1), some (.int v2), some (.int v3), none] [] h := by
  refine g_iload_n d_196_39 rfl rfl ?_
  refine g_i2l d_196_40 ?_
  refine g_lconst (v := 0) d_196_41 (by decide) ?_
  refine g_ldc2_w (v := 5) d_196_42 wd_394 ?_
  exact g_callSI (mj := 177) [.long (Int32.toInt64 v3), .long 0, .long 5] [] d_196_45 wd_395 mo_177 mc_177 mv_177 rfl rfl (Nat.le_of_ble_eq_true rfl)  hdd hC kk

theorem k_196_48 {X : GX} {d : Nat} {h : Hp} {v1 : Int32} {v2 : Int32} {v3 : Int32} {s0 : Int32} {d' : Nat} {Q' : Int32 → Hp → Prop} (hdd : d' < d) (hC : CI d' 180 [.ref 84, .int v1] h Q') (kk : ∀ x h', Q' x h' → G X d 196 78 [some (.ref 84), some (.int v1), some (.int v2), some (.int v3), some (.int s0)] [.int x] h') : G X d 196 48 [some (.ref 84), some (.int v1), some (.int v2), some (.int v3), none] [.int s0] h := by
  refine g_goto (tgt := 71) d_196_48 (by decide) ?_
  refine g_istore d_196_71 (Nat.le_of_ble_eq_true rfl) rfl ?_
  refine g_aload_n d_196_73 rfl rfl ?_
  refine g_iload_n d_196_74 rfl rfl ?_
  exact g_callVI (mj := 180) 9 [.int v1] [] d_196_75 wd_400 mo_180 mc_180 mv_180 rfl rfl rfl (Nat.le_of_ble_eq_true rfl) rfl hdd hC kk

theorem k_196_51 {X : GX} {d : Nat} {h : Hp} {v1 : Int32} {v2 : Int32} {v3 : Int32} (kt : ¬ v2 = 4 → G X d 196 70 [some (.ref 84), some (.int v1), some (.int v2), some (.int v3), none] [] h) (kf : v2 = 4 → G X d 196 56 [some (.ref 84), some (.int v1), some (.int v2), some (.int v3), none] [] h) : G X d 196 51 [some (.ref 84), some (.int v1), some (.int v2), some (.int v3), none] [] h := by
  refine g_iload_n d_196_51 rfl rfl ?_
  refine g_iconst (v := 4) d_196_52 (by decide) ?_
  exact g_icmp_ne (tgt := 70) d_196_53 (by decide) kt kf

theorem k_196_56 {X : GX} {d : Nat} {h : Hp} {v1 : Int32} {v2 : Int32} {v3 : Int32} {d' : Nat} {Q' : Int32 → Hp → Prop} (hdd : d' < d) (hC : CI d' 177 [.long (Int32.toInt64 v3), .long 0, .long 1] h Q') (kk : ∀ x h', Q' x h' → G X d 196 63 [some (.ref 84), some (.int v1), some (.int v2), some (.int v3), none] [.int x] h') : G X d 196 56 [some (.ref 84), some (.int v1), some (.int v2), some (.int v3), none] [] h := by
  refine g_iload_n d_196_56 rfl rfl ?_
  refine g_i2l d_196_57 ?_
  refine g_lconst (v := 0) d_196_58 (by decide) ?_
  refine g_lconst (v := 1) d_196_59 (by decide) ?_
  exact g_callSI (mj := 177) [.long (Int32.toInt64 v3), .long 0, .long 1] [] d_196_60 wd_395 mo_177 mc_177 mv_177 rfl rfl (Nat.le_of_ble_eq_true rfl)  hdd hC kk

theorem k_196_63 {X : GX} {d : Nat} {h : Hp} {v1 : Int32} {v2 : Int32} {v3 : Int32} {s0 : Int32} (kt : s0 = 0 → G X d 196 70 [some (.ref 84), some (.int v1), some (.int v2), some (.int v3), none] [] h) (kf : ¬ s0 = 0 → G X d 196 66 [some (.ref 84), some (.int v1), some (.int v2), some (.int v3), none] [] h) : G X d 196 63 [some (.ref 84), some (.int v1), some (.int v2), some (.int v3), none] [.int s0] h := by
  exact g_if_eq (tgt := 70) d_196_63 (by decide) kt kf

theorem k_196_66 {X : GX} {d : Nat} {h : Hp} {v1 : Int32} {v2 : Int32} {v3 : Int32} {d' : Nat} {Q' : Int32 → Hp → Prop} (hdd : d' < d) (hC : CI d' 180 [.ref 84, .int v1] h Q') (kk : ∀ x h', Q' x h' → G X d 196 78 [some (.ref 84), some (.int v1), some (.int v2), some (.int v3), some (.int 1)] [.int x] h') : G X d 196 66 [some (.ref 84), some (.int v1), some (.int v2), some (.int v3), none] [] h := by
  refine g_iconst (v := 1) d_196_66 (by decide) ?_
  refine g_goto (tgt := 71) d_196_67 (by decide) ?_
  refine g_istore d_196_71 (Nat.le_of_ble_eq_true rfl) rfl ?_
  refine g_aload_n d_196_73 rfl rfl ?_
  refine g_iload_n d_196_74 rfl rfl ?_
  exact g_callVI (mj := 180) 9 [.int v1] [] d_196_75 wd_400 mo_180 mc_180 mv_180 rfl rfl rfl (Nat.le_of_ble_eq_true rfl) rfl hdd hC kk

theorem k_196_70 {X : GX} {d : Nat} {h : Hp} {v1 : Int32} {v2 : Int32} {v3 : Int32} {d' : Nat} {Q' : Int32 → Hp → Prop} (hdd : d' < d) (hC : CI d' 180 [.ref 84, .int v1] h Q') (kk : ∀ x h', Q' x h' → G X d 196 78 [some (.ref 84), some (.int v1), some (.int v2), some (.int v3), some (.int 0)] [.int x] h') : G X d 196 70 [some (.ref 84), some (.int v1), some (.int v2), some (.int v3), none] [] h := by
  refine g_iconst (v := 0) d_196_70 (by decide) ?_
  refine g_istore d_196_71 (Nat.le_of_ble_eq_true rfl) rfl ?_
  refine g_aload_n d_196_73 rfl rfl ?_
  refine g_iload_n d_196_74 rfl rfl ?_
  exact g_callVI (mj := 180) 9 [.int v1] [] d_196_75 wd_400 mo_180 mc_180 mv_180 rfl rfl rfl (Nat.le_of_ble_eq_true rfl) rfl hdd hC kk

theorem k_196_78 {X : GX} {d : Nat} {h : Hp} {v1 : Int32} {v2 : Int32} {v3 : Int32} {v4 : Int32} {s0 : Int32} (kt : s0 = 0 → G X d 196 102 [none, none, none, none, none] [] h) (kf : ¬ s0 = 0 → G X d 196 81 [some (.ref 84), some (.int v1), some (.int v2), some (.int v3), some (.int v4)] [] h) : G X d 196 78 [some (.ref 84), some (.int v1), some (.int v2), some (.int v3), some (.int v4)] [.int s0] h := by
  exact g_if_eq (tgt := 102) d_196_78 (by decide) (fun q => g_mask [false, false, false, false, false] (kt q)) kf

theorem k_196_81 {X : GX} {d : Nat} {h : Hp} {v1 : Int32} {v2 : Int32} {v3 : Int32} {v4 : Int32} (kt : v4 = 0 → G X d 196 102 [none, none, none, none, none] [] h) (kf : ¬ v4 = 0 → G X d 196 86 [some (.ref 84), some (.int v1), some (.int v2), some (.int v3), none] [] h) : G X d 196 81 [some (.ref 84), some (.int v1), some (.int v2), some (.int v3), some (.int v4)] [] h := by
  refine g_iload d_196_81 rfl ?_
  exact g_if_eq (tgt := 102) d_196_83 (by decide) (fun q => g_mask [false, false, false, false, false] (kt q)) (fun q => g_mask [true, true, true, true, false] (kf q))

theorem k_196_86 {X : GX} {d : Nat} {h : Hp} {v1 : Int32} {v2 : Int32} {v3 : Int32} {d' : Nat} {Q' : Int32 → Hp → Prop} (hdd : d' < d) (hC : CI d' 197 [.ref 84, .int ((35 + (5 * v1)) + v2), .int v3] h Q') (kk : ∀ x h', Q' x h' → G X d 196 99 [none, none, none, none, none] [.int x] h') : G X d 196 86 [some (.ref 84), some (.int v1), some (.int v2), some (.int v3), none] [] h := by
  refine g_aload_n d_196_86 rfl rfl ?_
  refine g_bipush (v := 35) d_196_87 (by decide) ?_
  refine g_iconst (v := 5) d_196_89 (by decide) ?_
  refine g_iload_n d_196_90 rfl rfl ?_
  refine g_imul d_196_91 ?_
  refine g_iadd d_196_92 ?_
  refine g_iload_n d_196_93 rfl rfl ?_
  refine g_iadd d_196_94 ?_
  refine g_iload_n d_196_95 rfl rfl ?_
  exact g_callVI (mj := 197) 9 [.int ((35 + (5 * v1)) + v2), .int v3] [] d_196_96 wd_417 mo_197 mc_197 mv_197 rfl rfl rfl (Nat.le_of_ble_eq_true rfl) rfl hdd hC (fun x h' q => g_mask [false, false, false, false, false] (kk x h' q))

theorem k_196_99 {X : GX} {d : Nat} {h : Hp} {s0 : Int32} (hq : RtX X (some (.int s0)) h) : G X d 196 99 [none, none, none, none, none] [.int s0] h := by
  refine g_goto (tgt := 103) d_196_99 (by decide) ?_
  exact g_reti d_196_103 rfl hq

theorem k_196_102 {X : GX} {d : Nat} {h : Hp} (hq : RtX X (some (.int ((-1)))) h) : G X d 196 102 [none, none, none, none, none] [] h := by
  refine g_iconst (v := (-1)) d_196_102 (by decide) ?_
  exact g_reti d_196_103 rfl hq

/-! 197 PlayedTruthModel.becomes(II)I -/
theorem k_197_0 {X : GX} {d : Nat} {h : Hp} {v1 : Int32} {v2 : Int32} (b0 : IA 85 v1) (hq : RtX X (some (.int (h 85 (Int32.toNatClampNeg v1)))) (wr h 85 (Int32.toNatClampNeg v1) v2)) : G X d 197 0 [some (.ref 84), some (.int v1), some (.int v2), none] [] h := by
  refine g_aload_n d_197_0 rfl rfl ?_
  refine g_getf (ci := 9) (k := 0) d_197_1 wd_355 (Nat.le_of_ble_eq_true rfl) rfl rfl ?_
  refine g_iload_n d_197_4 rfl rfl ?_
  refine g_iald d_197_5 b0 ?_
  refine g_istore_n d_197_6 rfl (Nat.le_of_ble_eq_true rfl) rfl ?_
  refine g_aload_n d_197_7 rfl rfl ?_
  refine g_getf (ci := 9) (k := 0) d_197_8 wd_355 (Nat.le_of_ble_eq_true rfl) rfl rfl ?_
  refine g_iload_n d_197_11 rfl rfl ?_
  refine g_iload_n d_197_12 rfl rfl ?_
  refine g_iast d_197_13 b0 ?_
  refine g_iload_n d_197_14 rfl rfl ?_
  exact g_reti d_197_15 rfl hq

/-! 198 PlayedTruthModel.remake(II)I -/
theorem k_198_0 {X : GX} {d : Nat} {h : Hp} {v1 : Int32} {v2 : Int32} {d' : Nat} {Q' : Int32 → Hp → Prop} (hdd : d' < d) (hC : CI d' 180 [.ref 84, .int v1] h Q') (kk : ∀ x h', Q' x h' → G X d 198 5 [some (.ref 84), some (.int v1), some (.int v2)] [.int x] h') : G X d 198 0 [some (.ref 84), some (.int v1), some (.int v2)] [] h := by
  refine g_aload_n d_198_0 rfl rfl ?_
  refine g_iload_n d_198_1 rfl rfl ?_
  exact g_callVI (mj := 180) 9 [.int v1] [] d_198_2 wd_400 mo_180 mc_180 mv_180 rfl rfl rfl (Nat.le_of_ble_eq_true rfl) rfl hdd hC kk

theorem k_198_5 {X : GX} {d : Nat} {h : Hp} {v1 : Int32} {v2 : Int32} {s0 : Int32} (kt : s0 = 0 → G X d 198 34 [none, none, none] [] h) (kf : ¬ s0 = 0 → G X d 198 8 [some (.ref 84), some (.int v1), some (.int v2)] [] h) : G X d 198 5 [some (.ref 84), some (.int v1), some (.int v2)] [.int s0] h := by
  exact g_if_eq (tgt := 34) d_198_5 (by decide) (fun q => g_mask [false, false, false] (kt q)) kf

theorem k_198_8 {X : GX} {d : Nat} {h : Hp} {v1 : Int32} {v2 : Int32} {d' : Nat} {Q' : Int32 → Hp → Prop} (hdd : d' < d) (hC : CI d' 177 [.long (Int32.toInt64 v2), .long 1, .long 5] h Q') (kk : ∀ x h', Q' x h' → G X d 198 17 [some (.ref 84), some (.int v1), some (.int v2)] [.int x] h') : G X d 198 8 [some (.ref 84), some (.int v1), some (.int v2)] [] h := by
  refine g_iload_n d_198_8 rfl rfl ?_
  refine g_i2l d_198_9 ?_
  refine g_lconst (v := 1) d_198_10 (by decide) ?_
  refine g_ldc2_w (v := 5) d_198_11 wd_394 ?_
  exact g_callSI (mj := 177) [.long (Int32.toInt64 v2), .long 1, .long 5] [] d_198_14 wd_395 mo_177 mc_177 mv_177 rfl rfl (Nat.le_of_ble_eq_true rfl)  hdd hC kk

theorem k_198_17 {X : GX} {d : Nat} {h : Hp} {v1 : Int32} {v2 : Int32} {s0 : Int32} (kt : s0 = 0 → G X d 198 34 [none, none, none] [] h) (kf : ¬ s0 = 0 → G X d 198 20 [some (.ref 84), some (.int v1), some (.int v2)] [] h) : G X d 198 17 [some (.ref 84), some (.int v1), some (.int v2)] [.int s0] h := by
  exact g_if_eq (tgt := 34) d_198_17 (by decide) (fun q => g_mask [false, false, false] (kt q)) kf

theorem k_198_20 {X : GX} {d : Nat} {h : Hp} {v1 : Int32} {v2 : Int32} {d' : Nat} {Q' : Int32 → Hp → Prop} (hdd : d' < d) (hC : CI d' 197 [.ref 84, .int (35 + (5 * v1)), .int v2] h Q') (kk : ∀ x h', Q' x h' → G X d 198 31 [none, none, none] [.int x] h') : G X d 198 20 [some (.ref 84), some (.int v1), some (.int v2)] [] h := by
  refine g_aload_n d_198_20 rfl rfl ?_
  refine g_bipush (v := 35) d_198_21 (by decide) ?_
  refine g_iconst (v := 5) d_198_23 (by decide) ?_
  refine g_iload_n d_198_24 rfl rfl ?_
  refine g_imul d_198_25 ?_
  refine g_iadd d_198_26 ?_
  refine g_iload_n d_198_27 rfl rfl ?_
  exact g_callVI (mj := 197) 9 [.int (35 + (5 * v1)), .int v2] [] d_198_28 wd_417 mo_197 mc_197 mv_197 rfl rfl rfl (Nat.le_of_ble_eq_true rfl) rfl hdd hC (fun x h' q => g_mask [false, false, false] (kk x h' q))

theorem k_198_31 {X : GX} {d : Nat} {h : Hp} {s0 : Int32} (hq : RtX X (some (.int s0)) h) : G X d 198 31 [none, none, none] [.int s0] h := by
  refine g_goto (tgt := 35) d_198_31 (by decide) ?_
  exact g_reti d_198_35 rfl hq

theorem k_198_34 {X : GX} {d : Nat} {h : Hp} (hq : RtX X (some (.int ((-1)))) h) : G X d 198 34 [none, none, none] [] h := by
  refine g_iconst (v := (-1)) d_198_34 (by decide) ?_
  exact g_reti d_198_35 rfl hq

/-! 199 PlayedTruthModel.house(II)I -/
theorem k_199_0 {X : GX} {d : Nat} {h : Hp} {v1 : Int32} {v2 : Int32} {d' : Nat} {Q' : Int32 → Hp → Prop} (hdd : d' < d) (hC : CI d' 177 [.long (Int32.toInt64 v1), .long 0, .long 15] h Q') (kk : ∀ x h', Q' x h' → G X d 199 9 [some (.ref 84), some (.int v1), some (.int v2)] [.int x] h') : G X d 199 0 [some (.ref 84), some (.int v1), some (.int v2)] [] h := by
  refine g_iload_n d_199_0 rfl rfl ?_
  refine g_i2l d_199_1 ?_
  refine g_lconst (v := 0) d_199_2 (by decide) ?_
  refine g_ldc2_w (v := 15) d_199_3 wd_420 ?_
  exact g_callSI (mj := 177) [.long (Int32.toInt64 v1), .long 0, .long 15] [] d_199_6 wd_395 mo_177 mc_177 mv_177 rfl rfl (Nat.le_of_ble_eq_true rfl)  hdd hC kk

theorem k_199_9 {X : GX} {d : Nat} {h : Hp} {v1 : Int32} {v2 : Int32} {s0 : Int32} (kt : s0 = 0 → G X d 199 36 [none, none, none] [] h) (kf : ¬ s0 = 0 → G X d 199 12 [some (.ref 84), some (.int v1), some (.int v2)] [] h) : G X d 199 9 [some (.ref 84), some (.int v1), some (.int v2)] [.int s0] h := by
  exact g_if_eq (tgt := 36) d_199_9 (by decide) (fun q => g_mask [false, false, false] (kt q)) kf

theorem k_199_12 {X : GX} {d : Nat} {h : Hp} {v1 : Int32} {v2 : Int32} {d' : Nat} {Q' : Int32 → Hp → Prop} (hdd : d' < d) (hC : CI d' 177 [.long (Int32.toInt64 v2), .long 0, .long 15] h Q') (kk : ∀ x h', Q' x h' → G X d 199 21 [some (.ref 84), some (.int v1), some (.int v2)] [.int x] h') : G X d 199 12 [some (.ref 84), some (.int v1), some (.int v2)] [] h := by
  refine g_iload_n d_199_12 rfl rfl ?_
  refine g_i2l d_199_13 ?_
  refine g_lconst (v := 0) d_199_14 (by decide) ?_
  refine g_ldc2_w (v := 15) d_199_15 wd_420 ?_
  exact g_callSI (mj := 177) [.long (Int32.toInt64 v2), .long 0, .long 15] [] d_199_18 wd_395 mo_177 mc_177 mv_177 rfl rfl (Nat.le_of_ble_eq_true rfl)  hdd hC kk

theorem k_199_21 {X : GX} {d : Nat} {h : Hp} {v1 : Int32} {v2 : Int32} {s0 : Int32} (kt : s0 = 0 → G X d 199 36 [none, none, none] [] h) (kf : ¬ s0 = 0 → G X d 199 24 [some (.ref 84), some (.int v1), some (.int v2)] [] h) : G X d 199 21 [some (.ref 84), some (.int v1), some (.int v2)] [.int s0] h := by
  exact g_if_eq (tgt := 36) d_199_21 (by decide) (fun q => g_mask [false, false, false] (kt q)) kf

theorem k_199_24 {X : GX} {d : Nat} {h : Hp} {v1 : Int32} {v2 : Int32} {d' : Nat} {Q' : Int32 → Hp → Prop} (hdd : d' < d) (hC : CI d' 197 [.ref 84, .int (7 + v1), .int v2] h Q') (kk : ∀ x h', Q' x h' → G X d 199 33 [none, none, none] [.int x] h') : G X d 199 24 [some (.ref 84), some (.int v1), some (.int v2)] [] h := by
  refine g_aload_n d_199_24 rfl rfl ?_
  refine g_bipush (v := 7) d_199_25 (by decide) ?_
  refine g_iload_n d_199_27 rfl rfl ?_
  refine g_iadd d_199_28 ?_
  refine g_iload_n d_199_29 rfl rfl ?_
  exact g_callVI (mj := 197) 9 [.int (7 + v1), .int v2] [] d_199_30 wd_417 mo_197 mc_197 mv_197 rfl rfl rfl (Nat.le_of_ble_eq_true rfl) rfl hdd hC (fun x h' q => g_mask [false, false, false] (kk x h' q))

theorem k_199_33 {X : GX} {d : Nat} {h : Hp} {s0 : Int32} (hq : RtX X (some (.int s0)) h) : G X d 199 33 [none, none, none] [.int s0] h := by
  refine g_goto (tgt := 37) d_199_33 (by decide) ?_
  exact g_reti d_199_37 rfl hq

theorem k_199_36 {X : GX} {d : Nat} {h : Hp} (hq : RtX X (some (.int ((-1)))) h) : G X d 199 36 [none, none, none] [] h := by
  refine g_iconst (v := (-1)) d_199_36 (by decide) ?_
  exact g_reti d_199_37 rfl hq

/-! 200 PlayedTruthModel.place(III)I -/
theorem k_200_0 {X : GX} {d : Nat} {h : Hp} {v1 : Int32} {v2 : Int32} {v3 : Int32} {d' : Nat} {Q' : Int32 → Hp → Prop} (hdd : d' < d) (hC : CI d' 177 [.long (Int32.toInt64 v1), .long 0, .long 5] h Q') (kk : ∀ x h', Q' x h' → G X d 200 9 [some (.ref 84), some (.int v1), some (.int v2), some (.int v3)] [.int x] h') : G X d 200 0 [some (.ref 84), some (.int v1), some (.int v2), some (.int v3)] [] h := by
  refine g_iload_n d_200_0 rfl rfl ?_
  refine g_i2l d_200_1 ?_
  refine g_lconst (v := 0) d_200_2 (by decide) ?_
  refine g_ldc2_w (v := 5) d_200_3 wd_394 ?_
  exact g_callSI (mj := 177) [.long (Int32.toInt64 v1), .long 0, .long 5] [] d_200_6 wd_395 mo_177 mc_177 mv_177 rfl rfl (Nat.le_of_ble_eq_true rfl)  hdd hC kk

theorem k_200_9 {X : GX} {d : Nat} {h : Hp} {v1 : Int32} {v2 : Int32} {v3 : Int32} {s0 : Int32} (kt : s0 = 0 → G X d 200 51 [none, none, none, none] [] h) (kf : ¬ s0 = 0 → G X d 200 12 [some (.ref 84), some (.int v1), some (.int v2), some (.int v3)] [] h) : G X d 200 9 [some (.ref 84), some (.int v1), some (.int v2), some (.int v3)] [.int s0] h := by
  exact g_if_eq (tgt := 51) d_200_9 (by decide) (fun q => g_mask [false, false, false, false] (kt q)) kf

theorem k_200_12 {X : GX} {d : Nat} {h : Hp} {v1 : Int32} {v2 : Int32} {v3 : Int32} {d' : Nat} {Q' : Int32 → Hp → Prop} (hdd : d' < d) (hC : CI d' 177 [.long (Int32.toInt64 v2), .long 0, .long 1] h Q') (kk : ∀ x h', Q' x h' → G X d 200 19 [some (.ref 84), some (.int v1), some (.int v2), some (.int v3)] [.int x] h') : G X d 200 12 [some (.ref 84), some (.int v1), some (.int v2), some (.int v3)] [] h := by
  refine g_iload_n d_200_12 rfl rfl ?_
  refine g_i2l d_200_13 ?_
  refine g_lconst (v := 0) d_200_14 (by decide) ?_
  refine g_lconst (v := 1) d_200_15 (by decide) ?_
  exact g_callSI (mj := 177) [.long (Int32.toInt64 v2), .long 0, .long 1] [] d_200_16 wd_395 mo_177 mc_177 mv_177 rfl rfl (Nat.le_of_ble_eq_true rfl)  hdd hC kk

theorem k_200_19 {X : GX} {d : Nat} {h : Hp} {v1 : Int32} {v2 : Int32} {v3 : Int32} {s0 : Int32} (kt : s0 = 0 → G X d 200 51 [none, none, none, none] [] h) (kf : ¬ s0 = 0 → G X d 200 22 [some (.ref 84), some (.int v1), some (.int v2), some (.int v3)] [] h) : G X d 200 19 [some (.ref 84), some (.int v1), some (.int v2), some (.int v3)] [.int s0] h := by
  exact g_if_eq (tgt := 51) d_200_19 (by decide) (fun q => g_mask [false, false, false, false] (kt q)) kf

theorem k_200_22 {X : GX} {d : Nat} {h : Hp} {v1 : Int32} {v2 : Int32} {v3 : Int32} {d' : Nat} {Q' : Int32 → Hp → Prop} (hdd : d' < d) (hC : CI d' 177 [.long (Int32.toInt64 v3), .long 0, .long 9] h Q') (kk : ∀ x h', Q' x h' → G X d 200 31 [some (.ref 84), some (.int v1), some (.int v2), some (.int v3)] [.int x] h') : G X d 200 22 [some (.ref 84), some (.int v1), some (.int v2), some (.int v3)] [] h := by
  refine g_iload_n d_200_22 rfl rfl ?_
  refine g_i2l d_200_23 ?_
  refine g_lconst (v := 0) d_200_24 (by decide) ?_
  refine g_ldc2_w (v := 9) d_200_25 wd_397 ?_
  exact g_callSI (mj := 177) [.long (Int32.toInt64 v3), .long 0, .long 9] [] d_200_28 wd_395 mo_177 mc_177 mv_177 rfl rfl (Nat.le_of_ble_eq_true rfl)  hdd hC kk

theorem k_200_31 {X : GX} {d : Nat} {h : Hp} {v1 : Int32} {v2 : Int32} {v3 : Int32} {s0 : Int32} (kt : s0 = 0 → G X d 200 51 [none, none, none, none] [] h) (kf : ¬ s0 = 0 → G X d 200 34 [some (.ref 84), some (.int v1), some (.int v2), some (.int v3)] [] h) : G X d 200 31 [some (.ref 84), some (.int v1), some (.int v2), some (.int v3)] [.int s0] h := by
  exact g_if_eq (tgt := 51) d_200_31 (by decide) (fun q => g_mask [false, false, false, false] (kt q)) kf

theorem k_200_34 {X : GX} {d : Nat} {h : Hp} {v1 : Int32} {v2 : Int32} {v3 : Int32} {d' : Nat} {Q' : Int32 → Hp → Prop} (hdd : d' < d) (hC : CI d' 197 [.ref 84, .int ((23 + (6 * v2)) + v1), .int v3] h Q') (kk : ∀ x h', Q' x h' → G X d 200 48 [none, none, none, none] [.int x] h') : G X d 200 34 [some (.ref 84), some (.int v1), some (.int v2), some (.int v3)] [] h := by
  refine g_aload_n d_200_34 rfl rfl ?_
  refine g_bipush (v := 23) d_200_35 (by decide) ?_
  refine g_bipush (v := 6) d_200_37 (by decide) ?_
  refine g_iload_n d_200_39 rfl rfl ?_
  refine g_imul d_200_40 ?_
  refine g_iadd d_200_41 ?_
  refine g_iload_n d_200_42 rfl rfl ?_
  refine g_iadd d_200_43 ?_
  refine g_iload_n d_200_44 rfl rfl ?_
  exact g_callVI (mj := 197) 9 [.int ((23 + (6 * v2)) + v1), .int v3] [] d_200_45 wd_417 mo_197 mc_197 mv_197 rfl rfl rfl (Nat.le_of_ble_eq_true rfl) rfl hdd hC (fun x h' q => g_mask [false, false, false, false] (kk x h' q))

theorem k_200_48 {X : GX} {d : Nat} {h : Hp} {s0 : Int32} (hq : RtX X (some (.int s0)) h) : G X d 200 48 [none, none, none, none] [.int s0] h := by
  refine g_goto (tgt := 52) d_200_48 (by decide) ?_
  exact g_reti d_200_52 rfl hq

theorem k_200_51 {X : GX} {d : Nat} {h : Hp} (hq : RtX X (some (.int ((-1)))) h) : G X d 200 51 [none, none, none, none] [] h := by
  refine g_iconst (v := (-1)) d_200_51 (by decide) ?_
  exact g_reti d_200_52 rfl hq

/-! 201 PlayedTruthModel.placeOf(II)I -/
theorem k_201_0 {X : GX} {d : Nat} {h : Hp} {v1 : Int32} {v2 : Int32} {d' : Nat} {Q' : Int32 → Hp → Prop} (hdd : d' < d) (hC : CI d' 177 [.long (Int32.toInt64 v1), .long 0, .long 5] h Q') (kk : ∀ x h', Q' x h' → G X d 201 9 [some (.ref 84), some (.int v1), some (.int v2)] [.int x] h') : G X d 201 0 [some (.ref 84), some (.int v1), some (.int v2)] [] h := by
  refine g_iload_n d_201_0 rfl rfl ?_
  refine g_i2l d_201_1 ?_
  refine g_lconst (v := 0) d_201_2 (by decide) ?_
  refine g_ldc2_w (v := 5) d_201_3 wd_394 ?_
  exact g_callSI (mj := 177) [.long (Int32.toInt64 v1), .long 0, .long 5] [] d_201_6 wd_395 mo_177 mc_177 mv_177 rfl rfl (Nat.le_of_ble_eq_true rfl)  hdd hC kk

theorem k_201_9 {X : GX} {d : Nat} {h : Hp} {v1 : Int32} {v2 : Int32} {s0 : Int32} (kt : s0 = 0 → G X d 201 39 [none, none, none] [] h) (kf : ¬ s0 = 0 → G X d 201 12 [some (.ref 84), some (.int v1), some (.int v2)] [] h) : G X d 201 9 [some (.ref 84), some (.int v1), some (.int v2)] [.int s0] h := by
  exact g_if_eq (tgt := 39) d_201_9 (by decide) (fun q => g_mask [false, false, false] (kt q)) kf

theorem k_201_12 {X : GX} {d : Nat} {h : Hp} {v1 : Int32} {v2 : Int32} {d' : Nat} {Q' : Int32 → Hp → Prop} (hdd : d' < d) (hC : CI d' 177 [.long (Int32.toInt64 v2), .long 0, .long 1] h Q') (kk : ∀ x h', Q' x h' → G X d 201 19 [some (.ref 84), some (.int v1), some (.int v2)] [.int x] h') : G X d 201 12 [some (.ref 84), some (.int v1), some (.int v2)] [] h := by
  refine g_iload_n d_201_12 rfl rfl ?_
  refine g_i2l d_201_13 ?_
  refine g_lconst (v := 0) d_201_14 (by decide) ?_
  refine g_lconst (v := 1) d_201_15 (by decide) ?_
  exact g_callSI (mj := 177) [.long (Int32.toInt64 v2), .long 0, .long 1] [] d_201_16 wd_395 mo_177 mc_177 mv_177 rfl rfl (Nat.le_of_ble_eq_true rfl)  hdd hC kk

theorem k_201_19 {X : GX} {d : Nat} {h : Hp} {v1 : Int32} {v2 : Int32} {s0 : Int32} (kt : s0 = 0 → G X d 201 39 [none, none, none] [] h) (kf : ¬ s0 = 0 → G X d 201 22 [some (.ref 84), some (.int v1), some (.int v2)] [] h) : G X d 201 19 [some (.ref 84), some (.int v1), some (.int v2)] [.int s0] h := by
  exact g_if_eq (tgt := 39) d_201_19 (by decide) (fun q => g_mask [false, false, false] (kt q)) kf

theorem k_201_22 {X : GX} {d : Nat} {h : Hp} {v1 : Int32} {v2 : Int32} (b0 : IA 85 ((23 + (6 * v2)) + v1)) (hq : RtX X (some (.int (h 85 (Int32.toNatClampNeg ((23 + (6 * v2)) + v1))))) h) : G X d 201 22 [some (.ref 84), some (.int v1), some (.int v2)] [] h := by
  refine g_aload_n d_201_22 rfl rfl ?_
  refine g_getf (ci := 9) (k := 0) d_201_23 wd_355 (Nat.le_of_ble_eq_true rfl) rfl rfl ?_
  refine g_bipush (v := 23) d_201_26 (by decide) ?_
  refine g_bipush (v := 6) d_201_28 (by decide) ?_
  refine g_iload_n d_201_30 rfl rfl ?_
  refine g_imul d_201_31 ?_
  refine g_iadd d_201_32 ?_
  refine g_iload_n d_201_33 rfl rfl ?_
  refine g_iadd d_201_34 ?_
  refine g_iald d_201_35 b0 ?_
  refine g_goto (tgt := 40) d_201_36 (by decide) ?_
  exact g_reti d_201_40 rfl hq

theorem k_201_39 {X : GX} {d : Nat} {h : Hp} (hq : RtX X (some (.int ((-1)))) h) : G X d 201 39 [none, none, none] [] h := by
  refine g_iconst (v := (-1)) d_201_39 (by decide) ?_
  exact g_reti d_201_40 rfl hq

/-! 202 PlayedTruthModel.ends(I)I -/
theorem k_202_0 {X : GX} {d : Nat} {h : Hp} {v1 : Int32} {d' : Nat} {Q' : Int32 → Hp → Prop} (hdd : d' < d) (hC : CI d' 177 [.long (Int32.toInt64 v1), .long 1, .long 16] h Q') (kk : ∀ x h', Q' x h' → G X d 202 9 [some (.ref 84), some (.int v1)] [.int x] h') : G X d 202 0 [some (.ref 84), some (.int v1)] [] h := by
  refine g_iload_n d_202_0 rfl rfl ?_
  refine g_i2l d_202_1 ?_
  refine g_lconst (v := 1) d_202_2 (by decide) ?_
  refine g_ldc2_w (v := 16) d_202_3 wd_424 ?_
  exact g_callSI (mj := 177) [.long (Int32.toInt64 v1), .long 1, .long 16] [] d_202_6 wd_395 mo_177 mc_177 mv_177 rfl rfl (Nat.le_of_ble_eq_true rfl)  hdd hC kk

theorem k_202_9 {X : GX} {d : Nat} {h : Hp} {v1 : Int32} {s0 : Int32} (kt : ¬ s0 = 0 → G X d 202 14 [some (.ref 84), some (.int v1)] [] h) (kf : s0 = 0 → G X d 202 12 [none, none] [] h) : G X d 202 9 [some (.ref 84), some (.int v1)] [.int s0] h := by
  exact g_if_ne (tgt := 14) d_202_9 (by decide) kt (fun q => g_mask [false, false] (kf q))

theorem k_202_12 {X : GX} {d : Nat} {h : Hp} (hq : RtX X (some (.int ((-1)))) h) : G X d 202 12 [none, none] [] h := by
  refine g_iconst (v := (-1)) d_202_12 (by decide) ?_
  exact g_reti d_202_13 rfl hq

theorem k_202_14 {X : GX} {d : Nat} {h : Hp} {v1 : Int32} (b0 : IA 85 1) (kt : (h 85 (Int32.toNatClampNeg 1)) ≤ v1 → G X d 202 29 [some (.ref 84), some (.int v1)] [] h) (kf : ¬ (h 85 (Int32.toNatClampNeg 1)) ≤ v1 → G X d 202 24 [none, none] [] h) : G X d 202 14 [some (.ref 84), some (.int v1)] [] h := by
  refine g_iload_n d_202_14 rfl rfl ?_
  refine g_aload_n d_202_15 rfl rfl ?_
  refine g_getf (ci := 9) (k := 0) d_202_16 wd_355 (Nat.le_of_ble_eq_true rfl) rfl rfl ?_
  refine g_iconst (v := 1) d_202_19 (by decide) ?_
  refine g_iald d_202_20 b0 ?_
  exact g_icmp_ge (tgt := 29) d_202_21 (by decide) kt (fun q => g_mask [false, false] (kf q))

theorem k_202_24 {X : GX} {d : Nat} {h : Hp} (hq : RtX X (some (.int ((-4)))) h) : G X d 202 24 [none, none] [] h := by
  refine g_bipush (v := (-4)) d_202_24 (by decide) ?_
  refine g_goto (tgt := 35) d_202_26 (by decide) ?_
  exact g_reti d_202_35 rfl hq

theorem k_202_29 {X : GX} {d : Nat} {h : Hp} {v1 : Int32} {d' : Nat} {Q' : Int32 → Hp → Prop} (hdd : d' < d) (hC : CI d' 197 [.ref 84, .int 2, .int v1] h Q') (kk : ∀ x h', Q' x h' → G X d 202 35 [none, none] [.int x] h') : G X d 202 29 [some (.ref 84), some (.int v1)] [] h := by
  refine g_aload_n d_202_29 rfl rfl ?_
  refine g_iconst (v := 2) d_202_30 (by decide) ?_
  refine g_iload_n d_202_31 rfl rfl ?_
  exact g_callVI (mj := 197) 9 [.int 2, .int v1] [] d_202_32 wd_417 mo_197 mc_197 mv_197 rfl rfl rfl (Nat.le_of_ble_eq_true rfl) rfl hdd hC (fun x h' q => g_mask [false, false] (kk x h' q))

theorem k_202_35 {X : GX} {d : Nat} {h : Hp} {s0 : Int32} (hq : RtX X (some (.int s0)) h) : G X d 202 35 [none, none] [.int s0] h := by
  exact g_reti d_202_35 rfl hq

/-! 203 PlayedTruthModel.anew()I -/
theorem k_203_0 {X : GX} {d : Nat} {h : Hp} (b0 : IA 85 3) (kk : G X d 203 9 [some (.ref 84), some (.int 0)] [] (wr h 85 (Int32.toNatClampNeg 3) 0)) : G X d 203 0 [some (.ref 84), none] [] h := by
  refine g_aload_n d_203_0 rfl rfl ?_
  refine g_getf (ci := 9) (k := 0) d_203_1 wd_355 (Nat.le_of_ble_eq_true rfl) rfl rfl ?_
  refine g_iconst (v := 3) d_203_4 (by decide) ?_
  refine g_iconst (v := 0) d_203_5 (by decide) ?_
  refine g_iast d_203_6 b0 ?_
  refine g_iconst (v := 0) d_203_7 (by decide) ?_
  refine g_istore_n d_203_8 rfl (Nat.le_of_ble_eq_true rfl) rfl ?_
  exact kk

theorem k_203_9 {X : GX} {d : Nat} {h : Hp} {v1 : Int32} (b0 : IA 85 0) (kt : (h 85 (Int32.toNatClampNeg 0)) ≤ v1 → G X d 203 32 [some (.ref 84), none] [] h) (kf : ¬ (h 85 (Int32.toNatClampNeg 0)) ≤ v1 → G X d 203 19 [some (.ref 84), some (.int v1)] [] h) : G X d 203 9 [some (.ref 84), some (.int v1)] [] h := by
  refine g_iload_n d_203_9 rfl rfl ?_
  refine g_aload_n d_203_10 rfl rfl ?_
  refine g_getf (ci := 9) (k := 0) d_203_11 wd_355 (Nat.le_of_ble_eq_true rfl) rfl rfl ?_
  refine g_iconst (v := 0) d_203_14 (by decide) ?_
  refine g_iald d_203_15 b0 ?_
  exact g_icmp_ge (tgt := 32) d_203_16 (by decide) (fun q => g_mask [true, false] (kt q)) kf

theorem k_203_19 {X : GX} {d : Nat} {h : Hp} {v1 : Int32} {d' : Nat} {Q' : Hp → Prop} (hdd : d' < d) (hC : CV d' 178 [.ref 84, .int v1, .int 4, .int 0] h Q') (kk : ∀ h', Q' h' → G X d 203 26 [some (.ref 84), some (.int v1)] [] h') : G X d 203 19 [some (.ref 84), some (.int v1)] [] h := by
  refine g_aload_n d_203_19 rfl rfl ?_
  refine g_iload_n d_203_20 rfl rfl ?_
  refine g_iconst (v := 4) d_203_21 (by decide) ?_
  refine g_iconst (v := 0) d_203_22 (by decide) ?_
  exact g_callVV (mj := 178) 9 [.int v1, .int 4, .int 0] [] d_203_23 wd_398 mo_178 mc_178 mv_178 rfl rfl rfl (Nat.le_of_ble_eq_true rfl) rfl hdd hC kk

theorem k_203_26 {X : GX} {d : Nat} {h : Hp} {v1 : Int32} (kk : G X d 203 9 [some (.ref 84), some (.int (v1 + 1))] [] h) : G X d 203 26 [some (.ref 84), some (.int v1)] [] h := by
  refine g_iinc (w := 1) d_203_26 rfl (by decide) (Nat.le_of_ble_eq_true rfl) rfl ?_
  refine g_goto (tgt := 9) d_203_29 (by decide) ?_
  exact kk

theorem k_203_32 {X : GX} {d : Nat} {h : Hp} {d' : Nat} {Q' : Int32 → Hp → Prop} (hdd : d' < d) (hC : CI d' 197 [.ref 84, .int 1, .int 0] h Q') (kk : ∀ x h', Q' x h' → G X d 203 38 [none, none] [.int x] h') : G X d 203 32 [some (.ref 84), none] [] h := by
  refine g_aload_n d_203_32 rfl rfl ?_
  refine g_iconst (v := 1) d_203_33 (by decide) ?_
  refine g_iconst (v := 0) d_203_34 (by decide) ?_
  exact g_callVI (mj := 197) 9 [.int 1, .int 0] [] d_203_35 wd_417 mo_197 mc_197 mv_197 rfl rfl rfl (Nat.le_of_ble_eq_true rfl) rfl hdd hC (fun x h' q => g_mask [false, false] (kk x h' q))

theorem k_203_38 {X : GX} {d : Nat} {h : Hp} {s0 : Int32} (hq : RtX X (some (.int s0)) h) : G X d 203 38 [none, none] [.int s0] h := by
  exact g_reti d_203_38 rfl hq

/-! 204 PlayedTruthModel.state(I)I -/
theorem k_204_0 {X : GX} {d : Nat} {h : Hp} {v1 : Int32} (k0 : v1 = 0 → G X d 204 44 [some (.ref 84), none] [] h) (k1 : v1 = 1 → G X d 204 51 [some (.ref 84), none] [] h) (k2 : v1 = 2 → G X d 204 58 [some (.ref 84), none] [] h) (k3 : v1 = 3 → G X d 204 65 [some (.ref 84), none] [] h) (k4 : v1 = 4 → G X d 204 78 [some (.ref 84), none] [] h) (k5 : v1 = 5 → G X d 204 83 [some (.ref 84), none] [] h) (k6 : v1 = 6 → G X d 204 94 [some (.ref 84), none] [] h) (kd : ¬ v1 = 0 → ¬ v1 = 1 → ¬ v1 = 2 → ¬ v1 = 3 → ¬ v1 = 4 → ¬ v1 = 5 → ¬ v1 = 6 → G X d 204 99 [none, none] [] h) : G X d 204 0 [some (.ref 84), some (.int v1)] [] h := by
  refine g_iload_n d_204_0 rfl rfl ?_
  exact g_table (tls := [(0, 44), (1, 51), (2, 58), (3, 65), (4, 78), (5, 83), (6, 94)]) (df := 99) d_204_1 (by decide +kernel) ⟨fun q => g_mask [true, false] (k0 q), fun n0 => ⟨fun q => g_mask [true, false] (k1 q), fun n1 => ⟨fun q => g_mask [true, false] (k2 q), fun n2 => ⟨fun q => g_mask [true, false] (k3 q), fun n3 => ⟨fun q => g_mask [true, false] (k4 q), fun n4 => ⟨fun q => g_mask [true, false] (k5 q), fun n5 => ⟨fun q => g_mask [true, false] (k6 q), fun n6 => (g_mask [false, false] (kd n0 n1 n2 n3 n4 n5 n6))⟩⟩⟩⟩⟩⟩⟩

theorem k_204_44 {X : GX} {d : Nat} {h : Hp} (b0 : IA 85 1) (hq : RtX X (some (.int (h 85 (Int32.toNatClampNeg 1)))) h) : G X d 204 44 [some (.ref 84), none] [] h := by
  refine g_aload_n d_204_44 rfl rfl ?_
  refine g_getf (ci := 9) (k := 0) d_204_45 wd_355 (Nat.le_of_ble_eq_true rfl) rfl rfl ?_
  refine g_iconst (v := 1) d_204_48 (by decide) ?_
  refine g_iald d_204_49 b0 ?_
  exact g_reti d_204_50 rfl hq

theorem k_204_51 {X : GX} {d : Nat} {h : Hp} (b0 : IA 85 2) (hq : RtX X (some (.int (h 85 (Int32.toNatClampNeg 2)))) h) : G X d 204 51 [some (.ref 84), none] [] h := by
  refine g_aload_n d_204_51 rfl rfl ?_
  refine g_getf (ci := 9) (k := 0) d_204_52 wd_355 (Nat.le_of_ble_eq_true rfl) rfl rfl ?_
  refine g_iconst (v := 2) d_204_55 (by decide) ?_
  refine g_iald d_204_56 b0 ?_
  exact g_reti d_204_57 rfl hq

theorem k_204_58 {X : GX} {d : Nat} {h : Hp} (b0 : IA 85 3) (hq : RtX X (some (.int (h 85 (Int32.toNatClampNeg 3)))) h) : G X d 204 58 [some (.ref 84), none] [] h := by
  refine g_aload_n d_204_58 rfl rfl ?_
  refine g_getf (ci := 9) (k := 0) d_204_59 wd_355 (Nat.le_of_ble_eq_true rfl) rfl rfl ?_
  refine g_iconst (v := 3) d_204_62 (by decide) ?_
  refine g_iald d_204_63 b0 ?_
  exact g_reti d_204_64 rfl hq

theorem k_204_65 {X : GX} {d : Nat} {h : Hp} {d' : Nat} {Q' : Int32 → Hp → Prop} (hdd : d' < d) (hC : CI d' 205 [.ref 84] h Q') (kk : ∀ x h', Q' x h' → G X d 204 69 [none, none] [.int x] h') : G X d 204 65 [some (.ref 84), none] [] h := by
  refine g_aload_n d_204_65 rfl rfl ?_
  exact g_callVI (mj := 205) 9 [] [] d_204_66 wd_427 mo_205 mc_205 mv_205 rfl rfl rfl (Nat.le_of_ble_eq_true rfl) rfl hdd hC (fun x h' q => g_mask [false, false] (kk x h' q))

theorem k_204_69 {X : GX} {d : Nat} {h : Hp} {s0 : Int32} (kt : s0 = 0 → G X d 204 76 [none, none] [] h) (kf : ¬ s0 = 0 → G X d 204 72 [none, none] [] h) : G X d 204 69 [none, none] [.int s0] h := by
  exact g_if_eq (tgt := 76) d_204_69 (by decide) kt kf

theorem k_204_72 {X : GX} {d : Nat} {h : Hp} (hq : RtX X (some (.int 1)) h) : G X d 204 72 [none, none] [] h := by
  refine g_iconst (v := 1) d_204_72 (by decide) ?_
  refine g_goto (tgt := 77) d_204_73 (by decide) ?_
  exact g_reti d_204_77 rfl hq

theorem k_204_76 {X : GX} {d : Nat} {h : Hp} (hq : RtX X (some (.int 0)) h) : G X d 204 76 [none, none] [] h := by
  refine g_iconst (v := 0) d_204_76 (by decide) ?_
  exact g_reti d_204_77 rfl hq

theorem k_204_78 {X : GX} {d : Nat} {h : Hp} {d' : Nat} {Q' : Int32 → Hp → Prop} (hdd : d' < d) (hC : CI d' 206 [.ref 84] h Q') (kk : ∀ x h', Q' x h' → G X d 204 82 [none, none] [.int x] h') : G X d 204 78 [some (.ref 84), none] [] h := by
  refine g_aload_n d_204_78 rfl rfl ?_
  exact g_callVI (mj := 206) 9 [] [] d_204_79 wd_428 mo_206 mc_206 mv_206 rfl rfl rfl (Nat.le_of_ble_eq_true rfl) rfl hdd hC (fun x h' q => g_mask [false, false] (kk x h' q))

theorem k_204_82 {X : GX} {d : Nat} {h : Hp} {s0 : Int32} (hq : RtX X (some (.int s0)) h) : G X d 204 82 [none, none] [.int s0] h := by
  exact g_reti d_204_82 rfl hq

theorem k_204_83 {X : GX} {d : Nat} {h : Hp} {d' : Nat} {Q' : Int32 → Hp → Prop} (b0 : IA 85 1) (hdd : d' < d) (hC : CI d' 184 [.ref 84, .int (h 85 (Int32.toNatClampNeg 1))] h Q') (kk : ∀ x h', Q' x h' → G X d 204 93 [none, none] [.int x] h') : G X d 204 83 [some (.ref 84), none] [] h := by
  refine g_aload_n d_204_83 rfl rfl ?_
  refine g_aload_n d_204_84 rfl rfl ?_
  refine g_getf (ci := 9) (k := 0) d_204_85 wd_355 (Nat.le_of_ble_eq_true rfl) rfl rfl ?_
  refine g_iconst (v := 1) d_204_88 (by decide) ?_
  refine g_iald d_204_89 b0 ?_
  exact g_callVI (mj := 184) 9 [.int (h 85 (Int32.toNatClampNeg 1))] [] d_204_90 wd_404 mo_184 mc_184 mv_184 rfl rfl rfl (Nat.le_of_ble_eq_true rfl) rfl hdd hC (fun x h' q => g_mask [false, false] (kk x h' q))

theorem k_204_93 {X : GX} {d : Nat} {h : Hp} {s0 : Int32} (hq : RtX X (some (.int s0)) h) : G X d 204 93 [none, none] [.int s0] h := by
  exact g_reti d_204_93 rfl hq

theorem k_204_94 {X : GX} {d : Nat} {h : Hp} {d' : Nat} {Q' : Int32 → Hp → Prop} (hdd : d' < d) (hC : CI d' 207 [.ref 84] h Q') (kk : ∀ x h', Q' x h' → G X d 204 98 [none, none] [.int x] h') : G X d 204 94 [some (.ref 84), none] [] h := by
  refine g_aload_n d_204_94 rfl rfl ?_
  exact g_callVI (mj := 207) 9 [] [] d_204_95 wd_429 mo_207 mc_207 mv_207 rfl rfl rfl (Nat.le_of_ble_eq_true rfl) rfl hdd hC (fun x h' q => g_mask [false, false] (kk x h' q))

theorem k_204_98 {X : GX} {d : Nat} {h : Hp} {s0 : Int32} (hq : RtX X (some (.int s0)) h) : G X d 204 98 [none, none] [.int s0] h := by
  exact g_reti d_204_98 rfl hq

theorem k_204_99 {X : GX} {d : Nat} {h : Hp} (hq : RtX X (some (.int ((-1)))) h) : G X d 204 99 [none, none] [] h := by
  refine g_iconst (v := (-1)) d_204_99 (by decide) ?_
  exact g_reti d_204_100 rfl hq

/-! 205 PlayedTruthModel.isOver()Z -/
theorem k_205_0 {X : GX} {d : Nat} {h : Hp} (b0 : IA 85 1) (b1 : IA 85 2) (kt : (h 85 (Int32.toNatClampNeg 1)) < (h 85 (Int32.toNatClampNeg 2)) → G X d 205 19 [none] [] h) (kf : ¬ (h 85 (Int32.toNatClampNeg 1)) < (h 85 (Int32.toNatClampNeg 2)) → G X d 205 15 [none] [] h) : G X d 205 0 [some (.ref 84)] [] h := by
  refine g_aload_n d_205_0 rfl rfl ?_
  refine g_getf (ci := 9) (k := 0) d_205_1 wd_355 (Nat.le_of_ble_eq_true rfl) rfl rfl ?_
  refine g_iconst (v := 1) d_205_4 (by decide) ?_
  refine g_iald d_205_5 b0 ?_
  refine g_aload_n d_205_6 rfl rfl ?_
  refine g_getf (ci := 9) (k := 0) d_205_7 wd_355 (Nat.le_of_ble_eq_true rfl) rfl rfl ?_
  refine g_iconst (v := 2) d_205_10 (by decide) ?_
  refine g_iald d_205_11 b1 ?_
  exact g_icmp_lt (tgt := 19) d_205_12 (by decide) (fun q => g_mask [false] (kt q)) (fun q => g_mask [false] (kf q))

theorem k_205_15 {X : GX} {d : Nat} {h : Hp} (hq : RtX X (some (.int 1)) h) : G X d 205 15 [none] [] h := by
  refine g_iconst (v := 1) d_205_15 (by decide) ?_
  refine g_goto (tgt := 20) d_205_16 (by decide) ?_
  exact g_retz d_205_20 rfl z01_1 hq

theorem k_205_19 {X : GX} {d : Nat} {h : Hp} (hq : RtX X (some (.int 0)) h) : G X d 205 19 [none] [] h := by
  refine g_iconst (v := 0) d_205_19 (by decide) ?_
  exact g_retz d_205_20 rfl z01_0 hq

/-! 206 PlayedTruthModel.settled()I -/
theorem k_206_0 {X : GX} {d : Nat} {h : Hp} (kk : G X d 206 4 [some (.ref 84), some (.int 0), some (.int 0)] [] h) : G X d 206 0 [some (.ref 84), none, none] [] h := by
  refine g_iconst (v := 0) d_206_0 (by decide) ?_
  refine g_istore_n d_206_1 rfl (Nat.le_of_ble_eq_true rfl) rfl ?_
  refine g_iconst (v := 0) d_206_2 (by decide) ?_
  refine g_istore_n d_206_3 rfl (Nat.le_of_ble_eq_true rfl) rfl ?_
  exact kk

theorem k_206_4 {X : GX} {d : Nat} {h : Hp} {v1 : Int32} {v2 : Int32} (b0 : IA 85 0) (kt : (h 85 (Int32.toNatClampNeg 0)) ≤ v2 → G X d 206 31 [none, some (.int v1), none] [] h) (kf : ¬ (h 85 (Int32.toNatClampNeg 0)) ≤ v2 → G X d 206 14 [some (.ref 84), some (.int v1), some (.int v2)] [] h) : G X d 206 4 [some (.ref 84), some (.int v1), some (.int v2)] [] h := by
  refine g_iload_n d_206_4 rfl rfl ?_
  refine g_aload_n d_206_5 rfl rfl ?_
  refine g_getf (ci := 9) (k := 0) d_206_6 wd_355 (Nat.le_of_ble_eq_true rfl) rfl rfl ?_
  refine g_iconst (v := 0) d_206_9 (by decide) ?_
  refine g_iald d_206_10 b0 ?_
  exact g_icmp_ge (tgt := 31) d_206_11 (by decide) (fun q => g_mask [false, true, false] (kt q)) kf

theorem k_206_14 {X : GX} {d : Nat} {h : Hp} {v1 : Int32} {v2 : Int32} {d' : Nat} {Q' : Int32 → Hp → Prop} (hdd : d' < d) (hC : CI d' 182 [.ref 84, .int v2, .int 4] h Q') (kk : ∀ x h', Q' x h' → G X d 206 21 [some (.ref 84), none, some (.int v2)] [.int x, .int v1] h') : G X d 206 14 [some (.ref 84), some (.int v1), some (.int v2)] [] h := by
  refine g_iload_n d_206_14 rfl rfl ?_
  refine g_aload_n d_206_15 rfl rfl ?_
  refine g_iload_n d_206_16 rfl rfl ?_
  refine g_iconst (v := 4) d_206_17 (by decide) ?_
  exact g_callVI (mj := 182) 9 [.int v2, .int 4] [.int v1] d_206_18 wd_402 mo_182 mc_182 mv_182 rfl rfl rfl (Nat.le_of_ble_eq_true rfl) rfl hdd hC (fun x h' q => g_mask [true, false, true] (kk x h' q))

theorem k_206_21 {X : GX} {d : Nat} {h : Hp} {v2 : Int32} {s0 : Int32} {s1 : Int32} (kk : G X d 206 4 [some (.ref 84), some (.int (s1 ||| (s0 <<< (v2 &&& 31)))), some (.int (v2 + 1))] [] h) : G X d 206 21 [some (.ref 84), none, some (.int v2)] [.int s0, .int s1] h := by
  refine g_iload_n d_206_21 rfl rfl ?_
  refine g_ishl d_206_22 ?_
  refine g_ior d_206_23 ?_
  refine g_istore_n d_206_24 rfl (Nat.le_of_ble_eq_true rfl) rfl ?_
  refine g_iinc (w := 1) d_206_25 rfl (by decide) (Nat.le_of_ble_eq_true rfl) rfl ?_
  refine g_goto (tgt := 4) d_206_28 (by decide) ?_
  exact kk

theorem k_206_31 {X : GX} {d : Nat} {h : Hp} {v1 : Int32} (hq : RtX X (some (.int v1)) h) : G X d 206 31 [none, some (.int v1), none] [] h := by
  refine g_iload_n d_206_31 rfl rfl ?_
  exact g_reti d_206_32 rfl hq

/-! 207 PlayedTruthModel.truthAll()I -/
theorem k_207_0 {X : GX} {d : Nat} {h : Hp} (kk : G X d 207 4 [some (.ref 84), some (.int 0), some (.int 0)] [] h) : G X d 207 0 [some (.ref 84), none, none] [] h := by
  refine g_iconst (v := 0) d_207_0 (by decide) ?_
  refine g_istore_n d_207_1 rfl (Nat.le_of_ble_eq_true rfl) rfl ?_
  refine g_iconst (v := 0) d_207_2 (by decide) ?_
  refine g_istore_n d_207_3 rfl (Nat.le_of_ble_eq_true rfl) rfl ?_
  exact kk

theorem k_207_4 {X : GX} {d : Nat} {h : Hp} {v1 : Int32} {v2 : Int32} (b0 : IA 85 0) (kt : (h 85 (Int32.toNatClampNeg 0)) ≤ v2 → G X d 207 29 [none, some (.int v1), none] [] h) (kf : ¬ (h 85 (Int32.toNatClampNeg 0)) ≤ v2 → G X d 207 14 [some (.ref 84), some (.int v1), some (.int v2)] [] h) : G X d 207 4 [some (.ref 84), some (.int v1), some (.int v2)] [] h := by
  refine g_iload_n d_207_4 rfl rfl ?_
  refine g_aload_n d_207_5 rfl rfl ?_
  refine g_getf (ci := 9) (k := 0) d_207_6 wd_355 (Nat.le_of_ble_eq_true rfl) rfl rfl ?_
  refine g_iconst (v := 0) d_207_9 (by decide) ?_
  refine g_iald d_207_10 b0 ?_
  exact g_icmp_ge (tgt := 29) d_207_11 (by decide) (fun q => g_mask [false, true, false] (kt q)) kf

theorem k_207_14 {X : GX} {d : Nat} {h : Hp} {v1 : Int32} {v2 : Int32} {d' : Nat} {Q' : Int32 → Hp → Prop} (hdd : d' < d) (hC : CI d' 182 [.ref 84, .int v2, .int 1] h Q') (kk : ∀ x h', Q' x h' → G X d 207 21 [some (.ref 84), none, some (.int v2)] [.int x, .int v1] h') : G X d 207 14 [some (.ref 84), some (.int v1), some (.int v2)] [] h := by
  refine g_iload_n d_207_14 rfl rfl ?_
  refine g_aload_n d_207_15 rfl rfl ?_
  refine g_iload_n d_207_16 rfl rfl ?_
  refine g_iconst (v := 1) d_207_17 (by decide) ?_
  exact g_callVI (mj := 182) 9 [.int v2, .int 1] [.int v1] d_207_18 wd_402 mo_182 mc_182 mv_182 rfl rfl rfl (Nat.le_of_ble_eq_true rfl) rfl hdd hC (fun x h' q => g_mask [true, false, true] (kk x h' q))

theorem k_207_21 {X : GX} {d : Nat} {h : Hp} {v2 : Int32} {s0 : Int32} {s1 : Int32} (kk : G X d 207 4 [some (.ref 84), some (.int (s1 + s0)), some (.int (v2 + 1))] [] h) : G X d 207 21 [some (.ref 84), none, some (.int v2)] [.int s0, .int s1] h := by
  refine g_iadd d_207_21 ?_
  refine g_istore_n d_207_22 rfl (Nat.le_of_ble_eq_true rfl) rfl ?_
  refine g_iinc (w := 1) d_207_23 rfl (by decide) (Nat.le_of_ble_eq_true rfl) rfl ?_
  refine g_goto (tgt := 4) d_207_26 (by decide) ?_
  exact kk

theorem k_207_29 {X : GX} {d : Nat} {h : Hp} {v1 : Int32} (hq : RtX X (some (.int v1)) h) : G X d 207 29 [none, some (.int v1), none] [] h := by
  refine g_iload_n d_207_29 rfl rfl ?_
  exact g_reti d_207_30 rfl hq

/-! 208 PlayedTruthModel.feed(JI)I -/
theorem k_208_0 {X : GX} {d : Nat} {h : Hp} {v1 : Int64} {v3 : Int32} {d' : Nat} {Q' : Int32 → Hp → Prop} (hdd : d' < d) (hC : CI d' 177 [.long (Int32.toInt64 v3), .long 1, .long 8] h Q') (kk : ∀ x h', Q' x h' → G X d 208 9 [some (.ref 84), some (.long v1), none, some (.int v3), none] [.int x] h') : G X d 208 0 [some (.ref 84), some (.long v1), none, some (.int v3), none] [] h := by
  refine g_iload_n d_208_0 rfl rfl ?_
  refine g_i2l d_208_1 ?_
  refine g_lconst (v := 1) d_208_2 (by decide) ?_
  refine g_ldc2_w (v := 8) d_208_3 wd_431 ?_
  exact g_callSI (mj := 177) [.long (Int32.toInt64 v3), .long 1, .long 8] [] d_208_6 wd_395 mo_177 mc_177 mv_177 rfl rfl (Nat.le_of_ble_eq_true rfl)  hdd hC kk

theorem k_208_9 {X : GX} {d : Nat} {h : Hp} {v1 : Int64} {v3 : Int32} {s0 : Int32} (kt : ¬ s0 = 0 → G X d 208 14 [some (.ref 84), some (.long v1), none, some (.int v3), none] [] h) (kf : s0 = 0 → G X d 208 12 [none, none, none, none, none] [] h) : G X d 208 9 [some (.ref 84), some (.long v1), none, some (.int v3), none] [.int s0] h := by
  exact g_if_ne (tgt := 14) d_208_9 (by decide) kt (fun q => g_mask [false, false, false, false, false] (kf q))

theorem k_208_12 {X : GX} {d : Nat} {h : Hp} (hq : RtX X (some (.int ((-1)))) h) : G X d 208 12 [none, none, none, none, none] [] h := by
  refine g_iconst (v := (-1)) d_208_12 (by decide) ?_
  exact g_reti d_208_13 rfl hq

theorem k_208_14 {X : GX} {d : Nat} {h : Hp} {v1 : Int64} {v3 : Int32} (kt : ((h 84 7) + v3) ≤ 200 → G X d 208 29 [some (.ref 84), some (.long v1), none, some (.int v3), none] [] h) (kf : ¬ ((h 84 7) + v3) ≤ 200 → G X d 208 26 [none, none, none, none, none] [] h) : G X d 208 14 [some (.ref 84), some (.long v1), none, some (.int v3), none] [] h := by
  refine g_aload_n d_208_14 rfl rfl ?_
  refine g_getf (ci := 9) (k := 7) d_208_15 wd_362 (Nat.le_of_ble_eq_true rfl) rfl rfl ?_
  refine g_iload_n d_208_18 rfl rfl ?_
  refine g_iadd d_208_19 ?_
  refine g_sipush (v := 200) d_208_20 (by decide) ?_
  exact g_icmp_le (tgt := 29) d_208_23 (by decide) kt (fun q => g_mask [false, false, false, false, false] (kf q))

theorem k_208_26 {X : GX} {d : Nat} {h : Hp} (hq : RtX X (some (.int ((-2)))) h) : G X d 208 26 [none, none, none, none, none] [] h := by
  refine g_bipush (v := (-2)) d_208_26 (by decide) ?_
  exact g_reti d_208_28 rfl hq

theorem k_208_29 {X : GX} {d : Nat} {h : Hp} {v1 : Int64} {v3 : Int32} (kk : G X d 208 32 [some (.ref 84), some (.long v1), none, some (.int v3), some (.int 0)] [] h) : G X d 208 29 [some (.ref 84), some (.long v1), none, some (.int v3), none] [] h := by
  refine g_iconst (v := 0) d_208_29 (by decide) ?_
  refine g_istore d_208_30 (Nat.le_of_ble_eq_true rfl) rfl ?_
  exact kk

theorem k_208_32 {X : GX} {d : Nat} {h : Hp} {v1 : Int64} {v3 : Int32} {v4 : Int32} (kt : v3 ≤ v4 → G X d 208 75 [some (.ref 84), none, none, none, none] [] h) (kf : ¬ v3 ≤ v4 → G X d 208 38 [some (.ref 84), some (.long v1), none, some (.int v3), some (.int v4)] [] h) : G X d 208 32 [some (.ref 84), some (.long v1), none, some (.int v3), some (.int v4)] [] h := by
  refine g_iload d_208_32 rfl ?_
  refine g_iload_n d_208_34 rfl rfl ?_
  exact g_icmp_ge (tgt := 75) d_208_35 (by decide) (fun q => g_mask [true, false, false, false, false] (kt q)) kf

theorem k_208_38 {X : GX} {d : Nat} {h : Hp} {v1 : Int64} {v3 : Int32} {v4 : Int32} (b0 : IA 89 (h 84 7)) (kk : G X d 208 32 [some (.ref 84), some (.long v1), none, some (.int v3), some (.int (v4 + 1))] [] (wr (wr h 89 (Int32.toNatClampNeg (h 84 7)) (Int64.toInt32 ((v1 >>> ((8 * v4 : Int32).toInt64 &&& 63)) &&& 255))) 84 7 (((wr h 89 (Int32.toNatClampNeg (h 84 7)) (Int64.toInt32 ((v1 >>> ((8 * v4 : Int32).toInt64 &&& 63)) &&& 255))) 84 7) + 1))) : G X d 208 38 [some (.ref 84), some (.long v1), none, some (.int v3), some (.int v4)] [] h := by
  refine g_aload_n d_208_38 rfl rfl ?_
  refine g_getf (ci := 9) (k := 6) d_208_39 wd_361 (Nat.le_of_ble_eq_true rfl) rfl rfl ?_
  refine g_aload_n d_208_42 rfl rfl ?_
  refine g_getf (ci := 9) (k := 7) d_208_43 wd_362 (Nat.le_of_ble_eq_true rfl) rfl rfl ?_
  refine g_lload_n d_208_46 rfl rfl ?_
  refine g_bipush (v := 8) d_208_47 (by decide) ?_
  refine g_iload d_208_49 rfl ?_
  refine g_imul d_208_51 ?_
  refine g_lshr d_208_52 ?_
  refine g_ldc2_w (v := 255) d_208_53 wd_432 ?_
  refine g_land d_208_56 ?_
  refine g_l2i d_208_57 ?_
  refine g_iast d_208_58 b0 ?_
  refine g_aload_n d_208_59 rfl rfl ?_
  refine g_dup d_208_60 rfl ?_
  refine g_getf (ci := 9) (k := 7) d_208_61 wd_362 (Nat.le_of_ble_eq_true rfl) rfl rfl ?_
  refine g_iconst (v := 1) d_208_64 (by decide) ?_
  refine g_iadd d_208_65 ?_
  refine g_putf (ci := 9) (k := 7) d_208_66 wd_362 (Nat.le_of_ble_eq_true rfl) (Nat.le_of_ble_eq_true rfl) rfl rfl (Or.inl ⟨rfl, rfl⟩) rfl ?_
  refine g_iinc (w := 1) d_208_69 rfl (by decide) (Nat.le_of_ble_eq_true rfl) rfl ?_
  refine g_goto (tgt := 32) d_208_72 (by decide) ?_
  exact kk

theorem k_208_75 {X : GX} {d : Nat} {h : Hp} (hq : RtX X (some (.int (h 84 7))) h) : G X d 208 75 [some (.ref 84), none, none, none, none] [] h := by
  refine g_aload_n d_208_75 rfl rfl ?_
  refine g_getf (ci := 9) (k := 7) d_208_76 wd_362 (Nat.le_of_ble_eq_true rfl) rfl rfl ?_
  exact g_reti d_208_79 rfl hq

/-! 209 PlayedTruthModel.rules()I -/
theorem k_209_0 {X : GX} {d : Nat} {h : Hp} {d' : Nat} {Q' : Hp → Prop} (hdd : d' < d) (hC : CV d' 210 [.ref 84] (wr (wr (wr (wr (wr h 84 8 0) 84 12 0) 84 13 0) 84 15 0) 84 17 0) Q') (kk : ∀ h', Q' h' → G X d 209 29 [some (.ref 84), none] [] h') : G X d 209 0 [some (.ref 84), none] [] h := by
  refine g_aload_n d_209_0 rfl rfl ?_
  refine g_iconst (v := 0) d_209_1 (by decide) ?_
  refine g_putf (ci := 9) (k := 8) d_209_2 wd_363 (Nat.le_of_ble_eq_true rfl) (Nat.le_of_ble_eq_true rfl) rfl rfl (Or.inl ⟨rfl, rfl⟩) rfl ?_
  refine g_aload_n d_209_5 rfl rfl ?_
  refine g_iconst (v := 0) d_209_6 (by decide) ?_
  refine g_putf (ci := 9) (k := 12) d_209_7 wd_367 (Nat.le_of_ble_eq_true rfl) (Nat.le_of_ble_eq_true rfl) rfl rfl (Or.inr ⟨rfl, rfl, z01_0⟩) rfl ?_
  refine g_aload_n d_209_10 rfl rfl ?_
  refine g_iconst (v := 0) d_209_11 (by decide) ?_
  refine g_putf (ci := 9) (k := 13) d_209_12 wd_368 (Nat.le_of_ble_eq_true rfl) (Nat.le_of_ble_eq_true rfl) rfl rfl (Or.inl ⟨rfl, rfl⟩) rfl ?_
  refine g_aload_n d_209_15 rfl rfl ?_
  refine g_iconst (v := 0) d_209_16 (by decide) ?_
  refine g_putf (ci := 9) (k := 15) d_209_17 wd_370 (Nat.le_of_ble_eq_true rfl) (Nat.le_of_ble_eq_true rfl) rfl rfl (Or.inl ⟨rfl, rfl⟩) rfl ?_
  refine g_aload_n d_209_20 rfl rfl ?_
  refine g_iconst (v := 0) d_209_21 (by decide) ?_
  refine g_putf (ci := 9) (k := 17) d_209_22 wd_372 (Nat.le_of_ble_eq_true rfl) (Nat.le_of_ble_eq_true rfl) rfl rfl (Or.inl ⟨rfl, rfl⟩) rfl ?_
  refine g_aload_n d_209_25 rfl rfl ?_
  exact g_callVV (mj := 210) 9 [] [] d_209_26 wd_434 mo_210 mc_210 mv_210 rfl rfl rfl (Nat.le_of_ble_eq_true rfl) rfl hdd hC kk

theorem k_209_29 {X : GX} {d : Nat} {h : Hp} (kt : (h 84 10) = 0 → G X d 209 50 [some (.ref 84), none] [] h) (kf : ¬ (h 84 10) = 0 → G X d 209 36 [some (.ref 84), none] [] h) : G X d 209 29 [some (.ref 84), none] [] h := by
  refine g_aload_n d_209_29 rfl rfl ?_
  refine g_getf (ci := 9) (k := 10) d_209_30 wd_365 (Nat.le_of_ble_eq_true rfl) rfl rfl ?_
  exact g_if_eq (tgt := 50) d_209_33 (by decide) kt kf

theorem k_209_36 {X : GX} {d : Nat} {h : Hp} (kt : ¬ (h 84 12) = 0 → G X d 209 50 [some (.ref 84), none] [] h) (kf : (h 84 12) = 0 → G X d 209 43 [some (.ref 84), none] [] h) : G X d 209 36 [some (.ref 84), none] [] h := by
  refine g_aload_n d_209_36 rfl rfl ?_
  refine g_getf (ci := 9) (k := 12) d_209_37 wd_367 (Nat.le_of_ble_eq_true rfl) rfl rfl ?_
  exact g_if_ne (tgt := 50) d_209_40 (by decide) kt kf

theorem k_209_43 {X : GX} {d : Nat} {h : Hp} {d' : Nat} {Q' : Hp → Prop} (hdd : d' < d) (hC : CV d' 212 [.ref 84] h Q') (kk : ∀ h', Q' h' → G X d 209 47 [some (.ref 84), none] [] h') : G X d 209 43 [some (.ref 84), none] [] h := by
  refine g_aload_n d_209_43 rfl rfl ?_
  exact g_callVV (mj := 212) 9 [] [] d_209_44 wd_442 mo_212 mc_212 mv_212 rfl rfl rfl (Nat.le_of_ble_eq_true rfl) rfl hdd hC kk

theorem k_209_47 {X : GX} {d : Nat} {h : Hp} (kk : G X d 209 29 [some (.ref 84), none] [] h) : G X d 209 47 [some (.ref 84), none] [] h := by
  refine g_goto (tgt := 29) d_209_47 (by decide) ?_
  exact kk

theorem k_209_50 {X : GX} {d : Nat} {h : Hp} (kt : ((wr h 84 7 0) 84 12) = 0 → G X d 209 70 [some (.ref 84), none] [] (wr h 84 7 0)) (kf : ¬ ((wr h 84 7 0) 84 12) = 0 → G X d 209 62 [some (.ref 84), none] [] (wr h 84 7 0)) : G X d 209 50 [some (.ref 84), none] [] h := by
  refine g_aload_n d_209_50 rfl rfl ?_
  refine g_iconst (v := 0) d_209_51 (by decide) ?_
  refine g_putf (ci := 9) (k := 7) d_209_52 wd_362 (Nat.le_of_ble_eq_true rfl) (Nat.le_of_ble_eq_true rfl) rfl rfl (Or.inl ⟨rfl, rfl⟩) rfl ?_
  refine g_aload_n d_209_55 rfl rfl ?_
  refine g_getf (ci := 9) (k := 12) d_209_56 wd_367 (Nat.le_of_ble_eq_true rfl) rfl rfl ?_
  exact g_if_eq (tgt := 70) d_209_59 (by decide) kt kf

theorem k_209_62 {X : GX} {d : Nat} {h : Hp} (hq : RtX X (some (.int (((-100)) - (h 84 9)))) h) : G X d 209 62 [some (.ref 84), none] [] h := by
  refine g_bipush (v := (-100)) d_209_62 (by decide) ?_
  refine g_aload_n d_209_64 rfl rfl ?_
  refine g_getf (ci := 9) (k := 9) d_209_65 wd_364 (Nat.le_of_ble_eq_true rfl) rfl rfl ?_
  refine g_isub d_209_68 ?_
  exact g_reti d_209_69 rfl hq

theorem k_209_70 {X : GX} {d : Nat} {h : Hp} (b0 : IA 85 5) (kk : G X d 209 82 [some (.ref 84), some (.int 0)] [] (wr h 85 (Int32.toNatClampNeg 5) (h 84 17))) : G X d 209 70 [some (.ref 84), none] [] h := by
  refine g_aload_n d_209_70 rfl rfl ?_
  refine g_getf (ci := 9) (k := 0) d_209_71 wd_355 (Nat.le_of_ble_eq_true rfl) rfl rfl ?_
  refine g_iconst (v := 5) d_209_74 (by decide) ?_
  refine g_aload_n d_209_75 rfl rfl ?_
  refine g_getf (ci := 9) (k := 17) d_209_76 wd_372 (Nat.le_of_ble_eq_true rfl) rfl rfl ?_
  refine g_iast d_209_79 b0 ?_
  refine g_iconst (v := 0) d_209_80 (by decide) ?_
  refine g_istore_n d_209_81 rfl (Nat.le_of_ble_eq_true rfl) rfl ?_
  exact kk

theorem k_209_82 {X : GX} {d : Nat} {h : Hp} {v1 : Int32} (kt : 32 ≤ v1 → G X d 209 109 [some (.ref 84), none] [] h) (kf : ¬ 32 ≤ v1 → G X d 209 88 [some (.ref 84), some (.int v1)] [] h) : G X d 209 82 [some (.ref 84), some (.int v1)] [] h := by
  refine g_iload_n d_209_82 rfl rfl ?_
  refine g_bipush (v := 32) d_209_83 (by decide) ?_
  exact g_icmp_ge (tgt := 109) d_209_85 (by decide) (fun q => g_mask [true, false] (kt q)) kf

theorem k_209_88 {X : GX} {d : Nat} {h : Hp} {v1 : Int32} (b0 : IA 91 v1) (b1 : IA 85 (89 + v1)) (kk : G X d 209 82 [some (.ref 84), some (.int (v1 + 1))] [] (wr h 85 (Int32.toNatClampNeg (89 + v1)) (h 91 (Int32.toNatClampNeg v1)))) : G X d 209 88 [some (.ref 84), some (.int v1)] [] h := by
  refine g_aload_n d_209_88 rfl rfl ?_
  refine g_getf (ci := 9) (k := 0) d_209_89 wd_355 (Nat.le_of_ble_eq_true rfl) rfl rfl ?_
  refine g_bipush (v := 89) d_209_92 (by decide) ?_
  refine g_iload_n d_209_94 rfl rfl ?_
  refine g_iadd d_209_95 ?_
  refine g_aload_n d_209_96 rfl rfl ?_
  refine g_getf (ci := 9) (k := 16) d_209_97 wd_371 (Nat.le_of_ble_eq_true rfl) rfl rfl ?_
  refine g_iload_n d_209_100 rfl rfl ?_
  refine g_iald d_209_101 b0 ?_
  refine g_iast d_209_102 b1 ?_
  refine g_iinc (w := 1) d_209_103 rfl (by decide) (Nat.le_of_ble_eq_true rfl) rfl ?_
  refine g_goto (tgt := 82) d_209_106 (by decide) ?_
  exact kk

theorem k_209_109 {X : GX} {d : Nat} {h : Hp} (kk : G X d 209 111 [some (.ref 84), some (.int 0)] [] h) : G X d 209 109 [some (.ref 84), none] [] h := by
  refine g_iconst (v := 0) d_209_109 (by decide) ?_
  refine g_istore_n d_209_110 rfl (Nat.le_of_ble_eq_true rfl) rfl ?_
  exact kk

theorem k_209_111 {X : GX} {d : Nat} {h : Hp} {v1 : Int32} (kt : (h 84 15) ≤ v1 → G X d 209 140 [some (.ref 84), none] [] h) (kf : ¬ (h 84 15) ≤ v1 → G X d 209 119 [some (.ref 84), some (.int v1)] [] h) : G X d 209 111 [some (.ref 84), some (.int v1)] [] h := by
  refine g_iload_n d_209_111 rfl rfl ?_
  refine g_aload_n d_209_112 rfl rfl ?_
  refine g_getf (ci := 9) (k := 15) d_209_113 wd_370 (Nat.le_of_ble_eq_true rfl) rfl rfl ?_
  exact g_icmp_ge (tgt := 140) d_209_116 (by decide) (fun q => g_mask [true, false] (kt q)) kf

theorem k_209_119 {X : GX} {d : Nat} {h : Hp} {v1 : Int32} (b0 : IA 90 v1) (b1 : IA 85 (121 + v1)) (kk : G X d 209 111 [some (.ref 84), some (.int (v1 + 1))] [] (wr h 85 (Int32.toNatClampNeg (121 + v1)) (h 90 (Int32.toNatClampNeg v1)))) : G X d 209 119 [some (.ref 84), some (.int v1)] [] h := by
  refine g_aload_n d_209_119 rfl rfl ?_
  refine g_getf (ci := 9) (k := 0) d_209_120 wd_355 (Nat.le_of_ble_eq_true rfl) rfl rfl ?_
  refine g_bipush (v := 121) d_209_123 (by decide) ?_
  refine g_iload_n d_209_125 rfl rfl ?_
  refine g_iadd d_209_126 ?_
  refine g_aload_n d_209_127 rfl rfl ?_
  refine g_getf (ci := 9) (k := 14) d_209_128 wd_369 (Nat.le_of_ble_eq_true rfl) rfl rfl ?_
  refine g_iload_n d_209_131 rfl rfl ?_
  refine g_iald d_209_132 b0 ?_
  refine g_iast d_209_133 b1 ?_
  refine g_iinc (w := 1) d_209_134 rfl (by decide) (Nat.le_of_ble_eq_true rfl) rfl ?_
  refine g_goto (tgt := 111) d_209_137 (by decide) ?_
  exact kk

theorem k_209_140 {X : GX} {d : Nat} {h : Hp} (hq : RtX X (some (.int (h 84 17))) h) : G X d 209 140 [some (.ref 84), none] [] h := by
  refine g_aload_n d_209_140 rfl rfl ?_
  refine g_getf (ci := 9) (k := 17) d_209_141 wd_372 (Nat.le_of_ble_eq_true rfl) rfl rfl ?_
  exact g_reti d_209_144 rfl hq

/-! 210 PlayedTruthModel.next()V -/
theorem k_210_0 {X : GX} {d : Nat} {h : Hp} (kt : (h 84 7) ≤ (h 84 8) → G X d 210 38 [some (.ref 84)] [] h) (kf : ¬ (h 84 7) ≤ (h 84 8) → G X d 210 11 [some (.ref 84)] [] h) : G X d 210 0 [some (.ref 84)] [] h := by
  refine g_aload_n d_210_0 rfl rfl ?_
  refine g_getf (ci := 9) (k := 8) d_210_1 wd_363 (Nat.le_of_ble_eq_true rfl) rfl rfl ?_
  refine g_aload_n d_210_4 rfl rfl ?_
  refine g_getf (ci := 9) (k := 7) d_210_5 wd_362 (Nat.le_of_ble_eq_true rfl) rfl rfl ?_
  exact g_icmp_ge (tgt := 38) d_210_8 (by decide) kt kf

theorem k_210_11 {X : GX} {d : Nat} {h : Hp} (b0 : IA 89 (h 84 8)) (kt : ¬ (h 89 (Int32.toNatClampNeg (h 84 8))) = 32 → G X d 210 38 [some (.ref 84)] [] h) (kf : (h 89 (Int32.toNatClampNeg (h 84 8))) = 32 → G X d 210 25 [some (.ref 84)] [] h) : G X d 210 11 [some (.ref 84)] [] h := by
  refine g_aload_n d_210_11 rfl rfl ?_
  refine g_getf (ci := 9) (k := 6) d_210_12 wd_361 (Nat.le_of_ble_eq_true rfl) rfl rfl ?_
  refine g_aload_n d_210_15 rfl rfl ?_
  refine g_getf (ci := 9) (k := 8) d_210_16 wd_363 (Nat.le_of_ble_eq_true rfl) rfl rfl ?_
  refine g_iald d_210_19 b0 ?_
  refine g_bipush (v := 32) d_210_20 (by decide) ?_
  exact g_icmp_ne (tgt := 38) d_210_22 (by decide) kt kf

theorem k_210_25 {X : GX} {d : Nat} {h : Hp} (kk : G X d 210 0 [some (.ref 84)] [] (wr h 84 8 ((h 84 8) + 1))) : G X d 210 25 [some (.ref 84)] [] h := by
  refine g_aload_n d_210_25 rfl rfl ?_
  refine g_dup d_210_26 rfl ?_
  refine g_getf (ci := 9) (k := 8) d_210_27 wd_363 (Nat.le_of_ble_eq_true rfl) rfl rfl ?_
  refine g_iconst (v := 1) d_210_30 (by decide) ?_
  refine g_iadd d_210_31 ?_
  refine g_putf (ci := 9) (k := 8) d_210_32 wd_363 (Nat.le_of_ble_eq_true rfl) (Nat.le_of_ble_eq_true rfl) rfl rfl (Or.inl ⟨rfl, rfl⟩) rfl ?_
  refine g_goto (tgt := 0) d_210_35 (by decide) ?_
  exact kk

theorem k_210_38 {X : GX} {d : Nat} {h : Hp} (kt : ¬ ((wrL (wr h 84 9 (h 84 8)) 84 0) 84 8) = ((wrL (wr h 84 9 (h 84 8)) 84 0) 84 7) → G X d 210 70 [some (.ref 84)] [] (wrL (wr h 84 9 (h 84 8)) 84 0)) (kf : ((wrL (wr h 84 9 (h 84 8)) 84 0) 84 8) = ((wrL (wr h 84 9 (h 84 8)) 84 0) 84 7) → G X d 210 62 [some (.ref 84)] [] (wrL (wr h 84 9 (h 84 8)) 84 0)) : G X d 210 38 [some (.ref 84)] [] h := by
  refine g_aload_n d_210_38 rfl rfl ?_
  refine g_aload_n d_210_39 rfl rfl ?_
  refine g_getf (ci := 9) (k := 8) d_210_40 wd_363 (Nat.le_of_ble_eq_true rfl) rfl rfl ?_
  refine g_putf (ci := 9) (k := 9) d_210_43 wd_364 (Nat.le_of_ble_eq_true rfl) (Nat.le_of_ble_eq_true rfl) rfl rfl (Or.inl ⟨rfl, rfl⟩) rfl ?_
  refine g_aload_n d_210_46 rfl rfl ?_
  refine g_lconst (v := 0) d_210_47 (by decide) ?_
  refine g_putl (ci := 9) (k := 11) d_210_48 wd_366 (Nat.le_of_ble_eq_true rfl) (Nat.le_of_ble_eq_true rfl) rfl rfl ⟨rfl, rfl⟩ (by decide +kernel) rfl ?_
  refine g_aload_n d_210_51 rfl rfl ?_
  refine g_getf (ci := 9) (k := 8) d_210_52 wd_363 (Nat.le_of_ble_eq_true rfl) rfl rfl ?_
  refine g_aload_n d_210_55 rfl rfl ?_
  refine g_getf (ci := 9) (k := 7) d_210_56 wd_362 (Nat.le_of_ble_eq_true rfl) rfl rfl ?_
  exact g_icmp_ne (tgt := 70) d_210_59 (by decide) kt kf

theorem k_210_62 {X : GX} {d : Nat} {h : Hp} (hq : RtX X none (wr h 84 10 0)) : G X d 210 62 [some (.ref 84)] [] h := by
  refine g_aload_n d_210_62 rfl rfl ?_
  refine g_iconst (v := 0) d_210_63 (by decide) ?_
  refine g_putf (ci := 9) (k := 10) d_210_64 wd_365 (Nat.le_of_ble_eq_true rfl) (Nat.le_of_ble_eq_true rfl) rfl rfl (Or.inl ⟨rfl, rfl⟩) rfl ?_
  refine g_goto (tgt := 335) d_210_67 (by decide) ?_
  exact g_retv d_210_335 rfl hq

theorem k_210_70 {X : GX} {d : Nat} {h : Hp} {d' : Nat} {Q' : Int32 → Hp → Prop} (hdd : d' < d) (hC : CI d' 211 [.ref 84, .int 97, .int 122] h Q') (kk : ∀ x h', Q' x h' → G X d 210 78 [some (.ref 84)] [.int x] h') : G X d 210 70 [some (.ref 84)] [] h := by
  refine g_aload_n d_210_70 rfl rfl ?_
  refine g_bipush (v := 97) d_210_71 (by decide) ?_
  refine g_bipush (v := 122) d_210_73 (by decide) ?_
  exact g_callVI (mj := 211) 9 [.int 97, .int 122] [] d_210_75 wd_435 mo_211 mc_211 mv_211 rfl rfl rfl (Nat.le_of_ble_eq_true rfl) rfl hdd hC kk

theorem k_210_78 {X : GX} {d : Nat} {h : Hp} {s0 : Int32} (kt : s0 = 0 → G X d 210 190 [some (.ref 84)] [] h) (kf : ¬ s0 = 0 → G X d 210 81 [some (.ref 84)] [] h) : G X d 210 78 [some (.ref 84)] [.int s0] h := by
  exact g_if_eq (tgt := 190) d_210_78 (by decide) kt kf

theorem k_210_81 {X : GX} {d : Nat} {h : Hp} (kk : G X d 210 86 [some (.ref 84)] [] (wr h 84 10 1)) : G X d 210 81 [some (.ref 84)] [] h := by
  refine g_aload_n d_210_81 rfl rfl ?_
  refine g_iconst (v := 1) d_210_82 (by decide) ?_
  refine g_putf (ci := 9) (k := 10) d_210_83 wd_365 (Nat.le_of_ble_eq_true rfl) (Nat.le_of_ble_eq_true rfl) rfl rfl (Or.inl ⟨rfl, rfl⟩) rfl ?_
  exact kk

theorem k_210_86 {X : GX} {d : Nat} {h : Hp} {d' : Nat} {Q' : Int32 → Hp → Prop} (hdd : d' < d) (hC : CI d' 211 [.ref 84, .int 97, .int 122] h Q') (kk : ∀ x h', Q' x h' → G X d 210 94 [some (.ref 84)] [.int x] h') : G X d 210 86 [some (.ref 84)] [] h := by
  refine g_aload_n d_210_86 rfl rfl ?_
  refine g_bipush (v := 97) d_210_87 (by decide) ?_
  refine g_bipush (v := 122) d_210_89 (by decide) ?_
  exact g_callVI (mj := 211) 9 [.int 97, .int 122] [] d_210_91 wd_435 mo_211 mc_211 mv_211 rfl rfl rfl (Nat.le_of_ble_eq_true rfl) rfl hdd hC kk

theorem k_210_94 {X : GX} {d : Nat} {h : Hp} {s0 : Int32} (kt : s0 = 0 → G X d 210 159 [some (.ref 84)] [] h) (kf : ¬ s0 = 0 → G X d 210 97 [some (.ref 84)] [] h) : G X d 210 94 [some (.ref 84)] [.int s0] h := by
  exact g_if_eq (tgt := 159) d_210_94 (by decide) kt kf

theorem k_210_97 {X : GX} {d : Nat} {h : Hp} (kt : 7 ≤ ((h 84 8) - (h 84 9)) → G X d 210 140 [some (.ref 84)] [.ref 84] h) (kf : ¬ 7 ≤ ((h 84 8) - (h 84 9)) → G X d 210 112 [some (.ref 84)] [.ref 84] h) : G X d 210 97 [some (.ref 84)] [] h := by
  refine g_aload_n d_210_97 rfl rfl ?_
  refine g_aload_n d_210_98 rfl rfl ?_
  refine g_getf (ci := 9) (k := 8) d_210_99 wd_363 (Nat.le_of_ble_eq_true rfl) rfl rfl ?_
  refine g_aload_n d_210_102 rfl rfl ?_
  refine g_getf (ci := 9) (k := 9) d_210_103 wd_364 (Nat.le_of_ble_eq_true rfl) rfl rfl ?_
  refine g_isub d_210_106 ?_
  refine g_bipush (v := 7) d_210_107 (by decide) ?_
  exact g_icmp_ge (tgt := 140) d_210_109 (by decide) kt kf

theorem k_210_112 {X : GX} {d : Nat} {h : Hp} {s0 : Nat} (b0 : IA 89 (h 84 8)) (o1 : sh s0 = (1, 9)) (kk : G X d 210 86 [some (.ref 84)] [] (wr (wrL h s0 ((((27 * (rdL (h 84))) + (Int32.toInt64 (h 89 (Int32.toNatClampNeg (h 84 8))))) - 97) + 1)) 84 8 (((wrL h s0 ((((27 * (rdL (h 84))) + (Int32.toInt64 (h 89 (Int32.toNatClampNeg (h 84 8))))) - 97) + 1)) 84 8) + 1))) : G X d 210 112 [some (.ref 84)] [.ref s0] h := by
  refine g_ldc2_w (v := 27) d_210_112 wd_436 ?_
  refine g_aload_n d_210_115 rfl rfl ?_
  refine g_getf (ci := 9) (k := 11) d_210_116 wd_366 (Nat.le_of_ble_eq_true rfl) rfl rfl ?_
  refine g_lmul d_210_119 ?_
  refine g_aload_n d_210_120 rfl rfl ?_
  refine g_getf (ci := 9) (k := 6) d_210_121 wd_361 (Nat.le_of_ble_eq_true rfl) rfl rfl ?_
  refine g_aload_n d_210_124 rfl rfl ?_
  refine g_getf (ci := 9) (k := 8) d_210_125 wd_363 (Nat.le_of_ble_eq_true rfl) rfl rfl ?_
  refine g_iald d_210_128 b0 ?_
  refine g_i2l d_210_129 ?_
  refine g_ladd d_210_130 ?_
  refine g_ldc2_w (v := 97) d_210_131 wd_437 ?_
  refine g_lsub d_210_134 ?_
  refine g_lconst (v := 1) d_210_135 (by decide) ?_
  refine g_ladd d_210_136 ?_
  refine g_goto (tgt := 143) d_210_137 (by decide) ?_
  refine g_putl (ci := 9) (k := 11) d_210_143 wd_366 (Nat.le_of_ble_eq_true rfl) (Nat.le_of_ble_eq_true rfl) rfl rfl ⟨rfl, rfl⟩ (by decide +kernel) o1 ?_
  refine g_aload_n d_210_146 rfl rfl ?_
  refine g_dup d_210_147 rfl ?_
  refine g_getf (ci := 9) (k := 8) d_210_148 wd_363 (Nat.le_of_ble_eq_true rfl) rfl rfl ?_
  refine g_iconst (v := 1) d_210_151 (by decide) ?_
  refine g_iadd d_210_152 ?_
  refine g_putf (ci := 9) (k := 8) d_210_153 wd_363 (Nat.le_of_ble_eq_true rfl) (Nat.le_of_ble_eq_true rfl) rfl rfl (Or.inl ⟨rfl, rfl⟩) rfl ?_
  refine g_goto (tgt := 86) d_210_156 (by decide) ?_
  exact kk

theorem k_210_140 {X : GX} {d : Nat} {h : Hp} {s0 : Nat} (o0 : sh s0 = (1, 9)) (kk : G X d 210 86 [some (.ref 84)] [] (wr (wrL h s0 ((-1))) 84 8 (((wrL h s0 ((-1))) 84 8) + 1))) : G X d 210 140 [some (.ref 84)] [.ref s0] h := by
  refine g_ldc2_w (v := (-1)) d_210_140 wd_438 ?_
  refine g_putl (ci := 9) (k := 11) d_210_143 wd_366 (Nat.le_of_ble_eq_true rfl) (Nat.le_of_ble_eq_true rfl) rfl rfl ⟨rfl, rfl⟩ (by decide +kernel) o0 ?_
  refine g_aload_n d_210_146 rfl rfl ?_
  refine g_dup d_210_147 rfl ?_
  refine g_getf (ci := 9) (k := 8) d_210_148 wd_363 (Nat.le_of_ble_eq_true rfl) rfl rfl ?_
  refine g_iconst (v := 1) d_210_151 (by decide) ?_
  refine g_iadd d_210_152 ?_
  refine g_putf (ci := 9) (k := 8) d_210_153 wd_363 (Nat.le_of_ble_eq_true rfl) (Nat.le_of_ble_eq_true rfl) rfl rfl (Or.inl ⟨rfl, rfl⟩) rfl ?_
  refine g_goto (tgt := 86) d_210_156 (by decide) ?_
  exact kk

theorem k_210_159 {X : GX} {d : Nat} {h : Hp} (kt : ((h 84 8) - (h 84 9)) ≤ 7 → G X d 210 180 [some (.ref 84)] [.ref 84] h) (kf : ¬ ((h 84 8) - (h 84 9)) ≤ 7 → G X d 210 174 [none] [.ref 84] h) : G X d 210 159 [some (.ref 84)] [] h := by
  refine g_aload_n d_210_159 rfl rfl ?_
  refine g_aload_n d_210_160 rfl rfl ?_
  refine g_getf (ci := 9) (k := 8) d_210_161 wd_363 (Nat.le_of_ble_eq_true rfl) rfl rfl ?_
  refine g_aload_n d_210_164 rfl rfl ?_
  refine g_getf (ci := 9) (k := 9) d_210_165 wd_364 (Nat.le_of_ble_eq_true rfl) rfl rfl ?_
  refine g_isub d_210_168 ?_
  refine g_bipush (v := 7) d_210_169 (by decide) ?_
  exact g_icmp_le (tgt := 180) d_210_171 (by decide) kt (fun q => g_mask [false] (kf q))

theorem k_210_174 {X : GX} {d : Nat} {h : Hp} {s0 : Nat} (o0 : sh s0 = (1, 9)) (hq : RtX X none (wrL h s0 ((-1)))) : G X d 210 174 [none] [.ref s0] h := by
  refine g_ldc2_w (v := (-1)) d_210_174 wd_438 ?_
  refine g_goto (tgt := 184) d_210_177 (by decide) ?_
  refine g_putl (ci := 9) (k := 11) d_210_184 wd_366 (Nat.le_of_ble_eq_true rfl) (Nat.le_of_ble_eq_true rfl) rfl rfl ⟨rfl, rfl⟩ (by decide +kernel) o0 ?_
  refine g_goto (tgt := 335) d_210_187 (by decide) ?_
  exact g_retv d_210_335 rfl hq

theorem k_210_180 {X : GX} {d : Nat} {h : Hp} {s0 : Nat} (o0 : sh s0 = (1, 9)) (hq : RtX X none (wrL h s0 (rdL (h 84)))) : G X d 210 180 [some (.ref 84)] [.ref s0] h := by
  refine g_aload_n d_210_180 rfl rfl ?_
  refine g_getf (ci := 9) (k := 11) d_210_181 wd_366 (Nat.le_of_ble_eq_true rfl) rfl rfl ?_
  refine g_putl (ci := 9) (k := 11) d_210_184 wd_366 (Nat.le_of_ble_eq_true rfl) (Nat.le_of_ble_eq_true rfl) rfl rfl ⟨rfl, rfl⟩ (by decide +kernel) o0 ?_
  refine g_goto (tgt := 335) d_210_187 (by decide) ?_
  exact g_retv d_210_335 rfl hq

theorem k_210_190 {X : GX} {d : Nat} {h : Hp} {d' : Nat} {Q' : Int32 → Hp → Prop} (hdd : d' < d) (hC : CI d' 211 [.ref 84, .int 48, .int 57] h Q') (kk : ∀ x h', Q' x h' → G X d 210 198 [some (.ref 84)] [.int x] h') : G X d 210 190 [some (.ref 84)] [] h := by
  refine g_aload_n d_210_190 rfl rfl ?_
  refine g_bipush (v := 48) d_210_191 (by decide) ?_
  refine g_bipush (v := 57) d_210_193 (by decide) ?_
  exact g_callVI (mj := 211) 9 [.int 48, .int 57] [] d_210_195 wd_435 mo_211 mc_211 mv_211 rfl rfl rfl (Nat.le_of_ble_eq_true rfl) rfl hdd hC kk

theorem k_210_198 {X : GX} {d : Nat} {h : Hp} {s0 : Int32} (kt : s0 = 0 → G X d 210 306 [some (.ref 84)] [] h) (kf : ¬ s0 = 0 → G X d 210 201 [some (.ref 84)] [] h) : G X d 210 198 [some (.ref 84)] [.int s0] h := by
  exact g_if_eq (tgt := 306) d_210_198 (by decide) kt kf

theorem k_210_201 {X : GX} {d : Nat} {h : Hp} (kk : G X d 210 206 [some (.ref 84)] [] (wr h 84 10 2)) : G X d 210 201 [some (.ref 84)] [] h := by
  refine g_aload_n d_210_201 rfl rfl ?_
  refine g_iconst (v := 2) d_210_202 (by decide) ?_
  refine g_putf (ci := 9) (k := 10) d_210_203 wd_365 (Nat.le_of_ble_eq_true rfl) (Nat.le_of_ble_eq_true rfl) rfl rfl (Or.inl ⟨rfl, rfl⟩) rfl ?_
  exact kk

theorem k_210_206 {X : GX} {d : Nat} {h : Hp} {d' : Nat} {Q' : Int32 → Hp → Prop} (hdd : d' < d) (hC : CI d' 211 [.ref 84, .int 48, .int 57] h Q') (kk : ∀ x h', Q' x h' → G X d 210 214 [some (.ref 84)] [.int x] h') : G X d 210 206 [some (.ref 84)] [] h := by
  refine g_aload_n d_210_206 rfl rfl ?_
  refine g_bipush (v := 48) d_210_207 (by decide) ?_
  refine g_bipush (v := 57) d_210_209 (by decide) ?_
  exact g_callVI (mj := 211) 9 [.int 48, .int 57] [] d_210_211 wd_435 mo_211 mc_211 mv_211 rfl rfl rfl (Nat.le_of_ble_eq_true rfl) rfl hdd hC kk

theorem k_210_214 {X : GX} {d : Nat} {h : Hp} {s0 : Int32} (kt : s0 = 0 → G X d 210 276 [some (.ref 84)] [] h) (kf : ¬ s0 = 0 → G X d 210 217 [some (.ref 84)] [] h) : G X d 210 214 [some (.ref 84)] [.int s0] h := by
  exact g_if_eq (tgt := 276) d_210_214 (by decide) kt kf

theorem k_210_217 {X : GX} {d : Nat} {h : Hp} (kt : 4 ≤ ((h 84 8) - (h 84 9)) → G X d 210 257 [some (.ref 84)] [.ref 84] h) (kf : ¬ 4 ≤ ((h 84 8) - (h 84 9)) → G X d 210 231 [some (.ref 84)] [.ref 84] h) : G X d 210 217 [some (.ref 84)] [] h := by
  refine g_aload_n d_210_217 rfl rfl ?_
  refine g_aload_n d_210_218 rfl rfl ?_
  refine g_getf (ci := 9) (k := 8) d_210_219 wd_363 (Nat.le_of_ble_eq_true rfl) rfl rfl ?_
  refine g_aload_n d_210_222 rfl rfl ?_
  refine g_getf (ci := 9) (k := 9) d_210_223 wd_364 (Nat.le_of_ble_eq_true rfl) rfl rfl ?_
  refine g_isub d_210_226 ?_
  refine g_iconst (v := 4) d_210_227 (by decide) ?_
  exact g_icmp_ge (tgt := 257) d_210_228 (by decide) kt kf

theorem k_210_231 {X : GX} {d : Nat} {h : Hp} {s0 : Nat} (b0 : IA 89 (h 84 8)) (o1 : sh s0 = (1, 9)) (kk : G X d 210 206 [some (.ref 84)] [] (wr (wrL h s0 (((10 * (rdL (h 84))) + (Int32.toInt64 (h 89 (Int32.toNatClampNeg (h 84 8))))) - 48)) 84 8 (((wrL h s0 (((10 * (rdL (h 84))) + (Int32.toInt64 (h 89 (Int32.toNatClampNeg (h 84 8))))) - 48)) 84 8) + 1))) : G X d 210 231 [some (.ref 84)] [.ref s0] h := by
  refine g_ldc2_w (v := 10) d_210_231 wd_439 ?_
  refine g_aload_n d_210_234 rfl rfl ?_
  refine g_getf (ci := 9) (k := 11) d_210_235 wd_366 (Nat.le_of_ble_eq_true rfl) rfl rfl ?_
  refine g_lmul d_210_238 ?_
  refine g_aload_n d_210_239 rfl rfl ?_
  refine g_getf (ci := 9) (k := 6) d_210_240 wd_361 (Nat.le_of_ble_eq_true rfl) rfl rfl ?_
  refine g_aload_n d_210_243 rfl rfl ?_
  refine g_getf (ci := 9) (k := 8) d_210_244 wd_363 (Nat.le_of_ble_eq_true rfl) rfl rfl ?_
  refine g_iald d_210_247 b0 ?_
  refine g_i2l d_210_248 ?_
  refine g_ladd d_210_249 ?_
  refine g_ldc2_w (v := 48) d_210_250 wd_440 ?_
  refine g_lsub d_210_253 ?_
  refine g_goto (tgt := 260) d_210_254 (by decide) ?_
  refine g_putl (ci := 9) (k := 11) d_210_260 wd_366 (Nat.le_of_ble_eq_true rfl) (Nat.le_of_ble_eq_true rfl) rfl rfl ⟨rfl, rfl⟩ (by decide +kernel) o1 ?_
  refine g_aload_n d_210_263 rfl rfl ?_
  refine g_dup d_210_264 rfl ?_
  refine g_getf (ci := 9) (k := 8) d_210_265 wd_363 (Nat.le_of_ble_eq_true rfl) rfl rfl ?_
  refine g_iconst (v := 1) d_210_268 (by decide) ?_
  refine g_iadd d_210_269 ?_
  refine g_putf (ci := 9) (k := 8) d_210_270 wd_363 (Nat.le_of_ble_eq_true rfl) (Nat.le_of_ble_eq_true rfl) rfl rfl (Or.inl ⟨rfl, rfl⟩) rfl ?_
  refine g_goto (tgt := 206) d_210_273 (by decide) ?_
  exact kk

theorem k_210_257 {X : GX} {d : Nat} {h : Hp} {s0 : Nat} (o0 : sh s0 = (1, 9)) (kk : G X d 210 206 [some (.ref 84)] [] (wr (wrL h s0 100000) 84 8 (((wrL h s0 100000) 84 8) + 1))) : G X d 210 257 [some (.ref 84)] [.ref s0] h := by
  refine g_ldc2_w (v := 100000) d_210_257 wd_441 ?_
  refine g_putl (ci := 9) (k := 11) d_210_260 wd_366 (Nat.le_of_ble_eq_true rfl) (Nat.le_of_ble_eq_true rfl) rfl rfl ⟨rfl, rfl⟩ (by decide +kernel) o0 ?_
  refine g_aload_n d_210_263 rfl rfl ?_
  refine g_dup d_210_264 rfl ?_
  refine g_getf (ci := 9) (k := 8) d_210_265 wd_363 (Nat.le_of_ble_eq_true rfl) rfl rfl ?_
  refine g_iconst (v := 1) d_210_268 (by decide) ?_
  refine g_iadd d_210_269 ?_
  refine g_putf (ci := 9) (k := 8) d_210_270 wd_363 (Nat.le_of_ble_eq_true rfl) (Nat.le_of_ble_eq_true rfl) rfl rfl (Or.inl ⟨rfl, rfl⟩) rfl ?_
  refine g_goto (tgt := 206) d_210_273 (by decide) ?_
  exact kk

theorem k_210_276 {X : GX} {d : Nat} {h : Hp} (kt : ((h 84 8) - (h 84 9)) ≤ 4 → G X d 210 296 [some (.ref 84)] [.ref 84] h) (kf : ¬ ((h 84 8) - (h 84 9)) ≤ 4 → G X d 210 290 [none] [.ref 84] h) : G X d 210 276 [some (.ref 84)] [] h := by
  refine g_aload_n d_210_276 rfl rfl ?_
  refine g_aload_n d_210_277 rfl rfl ?_
  refine g_getf (ci := 9) (k := 8) d_210_278 wd_363 (Nat.le_of_ble_eq_true rfl) rfl rfl ?_
  refine g_aload_n d_210_281 rfl rfl ?_
  refine g_getf (ci := 9) (k := 9) d_210_282 wd_364 (Nat.le_of_ble_eq_true rfl) rfl rfl ?_
  refine g_isub d_210_285 ?_
  refine g_iconst (v := 4) d_210_286 (by decide) ?_
  exact g_icmp_le (tgt := 296) d_210_287 (by decide) kt (fun q => g_mask [false] (kf q))

theorem k_210_290 {X : GX} {d : Nat} {h : Hp} {s0 : Nat} (o0 : sh s0 = (1, 9)) (hq : RtX X none (wrL h s0 100000)) : G X d 210 290 [none] [.ref s0] h := by
  refine g_ldc2_w (v := 100000) d_210_290 wd_441 ?_
  refine g_goto (tgt := 300) d_210_293 (by decide) ?_
  refine g_putl (ci := 9) (k := 11) d_210_300 wd_366 (Nat.le_of_ble_eq_true rfl) (Nat.le_of_ble_eq_true rfl) rfl rfl ⟨rfl, rfl⟩ (by decide +kernel) o0 ?_
  refine g_goto (tgt := 335) d_210_303 (by decide) ?_
  exact g_retv d_210_335 rfl hq

theorem k_210_296 {X : GX} {d : Nat} {h : Hp} {s0 : Nat} (o0 : sh s0 = (1, 9)) (hq : RtX X none (wrL h s0 (rdL (h 84)))) : G X d 210 296 [some (.ref 84)] [.ref s0] h := by
  refine g_aload_n d_210_296 rfl rfl ?_
  refine g_getf (ci := 9) (k := 11) d_210_297 wd_366 (Nat.le_of_ble_eq_true rfl) rfl rfl ?_
  refine g_putl (ci := 9) (k := 11) d_210_300 wd_366 (Nat.le_of_ble_eq_true rfl) (Nat.le_of_ble_eq_true rfl) rfl rfl ⟨rfl, rfl⟩ (by decide +kernel) o0 ?_
  refine g_goto (tgt := 335) d_210_303 (by decide) ?_
  exact g_retv d_210_335 rfl hq

theorem k_210_306 {X : GX} {d : Nat} {h : Hp} (b0 : IA 89 ((wr h 84 10 3) 84 8)) (hq : RtX X none (wr (wrL (wr h 84 10 3) 84 (Int32.toInt64 ((wr h 84 10 3) 89 (Int32.toNatClampNeg ((wr h 84 10 3) 84 8))))) 84 8 (((wrL (wr h 84 10 3) 84 (Int32.toInt64 ((wr h 84 10 3) 89 (Int32.toNatClampNeg ((wr h 84 10 3) 84 8))))) 84 8) + 1))) : G X d 210 306 [some (.ref 84)] [] h := by
  refine g_aload_n d_210_306 rfl rfl ?_
  refine g_iconst (v := 3) d_210_307 (by decide) ?_
  refine g_putf (ci := 9) (k := 10) d_210_308 wd_365 (Nat.le_of_ble_eq_true rfl) (Nat.le_of_ble_eq_true rfl) rfl rfl (Or.inl ⟨rfl, rfl⟩) rfl ?_
  refine g_aload_n d_210_311 rfl rfl ?_
  refine g_aload_n d_210_312 rfl rfl ?_
  refine g_getf (ci := 9) (k := 6) d_210_313 wd_361 (Nat.le_of_ble_eq_true rfl) rfl rfl ?_
  refine g_aload_n d_210_316 rfl rfl ?_
  refine g_getf (ci := 9) (k := 8) d_210_317 wd_363 (Nat.le_of_ble_eq_true rfl) rfl rfl ?_
  refine g_iald d_210_320 b0 ?_
  refine g_i2l d_210_321 ?_
  refine g_putl (ci := 9) (k := 11) d_210_322 wd_366 (Nat.le_of_ble_eq_true rfl) (Nat.le_of_ble_eq_true rfl) rfl rfl ⟨rfl, rfl⟩ (by decide +kernel) rfl ?_
  refine g_aload_n d_210_325 rfl rfl ?_
  refine g_dup d_210_326 rfl ?_
  refine g_getf (ci := 9) (k := 8) d_210_327 wd_363 (Nat.le_of_ble_eq_true rfl) rfl rfl ?_
  refine g_iconst (v := 1) d_210_330 (by decide) ?_
  refine g_iadd d_210_331 ?_
  refine g_putf (ci := 9) (k := 8) d_210_332 wd_363 (Nat.le_of_ble_eq_true rfl) (Nat.le_of_ble_eq_true rfl) rfl rfl (Or.inl ⟨rfl, rfl⟩) rfl ?_
  exact g_retv d_210_335 rfl hq

/-! 211 PlayedTruthModel.isRow(CC)Z -/
theorem k_211_0 {X : GX} {d : Nat} {h : Hp} {v1 : Int32} {v2 : Int32} (kt : (h 84 7) ≤ (h 84 8) → G X d 211 35 [none, none, none] [] h) (kf : ¬ (h 84 7) ≤ (h 84 8) → G X d 211 11 [some (.ref 84), some (.int v1), some (.int v2)] [] h) : G X d 211 0 [some (.ref 84), some (.int v1), some (.int v2)] [] h := by
  refine g_aload_n d_211_0 rfl rfl ?_
  refine g_getf (ci := 9) (k := 8) d_211_1 wd_363 (Nat.le_of_ble_eq_true rfl) rfl rfl ?_
  refine g_aload_n d_211_4 rfl rfl ?_
  refine g_getf (ci := 9) (k := 7) d_211_5 wd_362 (Nat.le_of_ble_eq_true rfl) rfl rfl ?_
  exact g_icmp_ge (tgt := 35) d_211_8 (by decide) (fun q => g_mask [false, false, false] (kt q)) kf

theorem k_211_11 {X : GX} {d : Nat} {h : Hp} {v1 : Int32} {v2 : Int32} {d' : Nat} {Q' : Int32 → Hp → Prop} (b0 : IA 89 (h 84 8)) (hdd : d' < d) (hC : CI d' 177 [.long (Int32.toInt64 (h 89 (Int32.toNatClampNeg (h 84 8)))), .long (Int32.toInt64 v1), .long (Int32.toInt64 v2)] h Q') (kk : ∀ x h', Q' x h' → G X d 211 28 [none, none, none] [.int x] h') : G X d 211 11 [some (.ref 84), some (.int v1), some (.int v2)] [] h := by
  refine g_aload_n d_211_11 rfl rfl ?_
  refine g_getf (ci := 9) (k := 6) d_211_12 wd_361 (Nat.le_of_ble_eq_true rfl) rfl rfl ?_
  refine g_aload_n d_211_15 rfl rfl ?_
  refine g_getf (ci := 9) (k := 8) d_211_16 wd_363 (Nat.le_of_ble_eq_true rfl) rfl rfl ?_
  refine g_iald d_211_19 b0 ?_
  refine g_i2l d_211_20 ?_
  refine g_iload_n d_211_21 rfl rfl ?_
  refine g_i2l d_211_22 ?_
  refine g_iload_n d_211_23 rfl rfl ?_
  refine g_i2l d_211_24 ?_
  exact g_callSI (mj := 177) [.long (Int32.toInt64 (h 89 (Int32.toNatClampNeg (h 84 8)))), .long (Int32.toInt64 v1), .long (Int32.toInt64 v2)] [] d_211_25 wd_395 mo_177 mc_177 mv_177 rfl rfl (Nat.le_of_ble_eq_true rfl)  hdd hC (fun x h' q => g_mask [false, false, false] (kk x h' q))

theorem k_211_28 {X : GX} {d : Nat} {h : Hp} {s0 : Int32} (kt : s0 = 0 → G X d 211 35 [none, none, none] [] h) (kf : ¬ s0 = 0 → G X d 211 31 [none, none, none] [] h) : G X d 211 28 [none, none, none] [.int s0] h := by
  exact g_if_eq (tgt := 35) d_211_28 (by decide) kt kf

theorem k_211_31 {X : GX} {d : Nat} {h : Hp} (hq : RtX X (some (.int 1)) h) : G X d 211 31 [none, none, none] [] h := by
  refine g_iconst (v := 1) d_211_31 (by decide) ?_
  refine g_goto (tgt := 36) d_211_32 (by decide) ?_
  exact g_retz d_211_36 rfl z01_1 hq

theorem k_211_35 {X : GX} {d : Nat} {h : Hp} (hq : RtX X (some (.int 0)) h) : G X d 211 35 [none, none, none] [] h := by
  refine g_iconst (v := 0) d_211_35 (by decide) ?_
  exact g_retz d_211_36 rfl z01_0 hq

/-! 212 PlayedTruthModel.ruleHere()V -/
theorem k_212_0 {X : GX} {d : Nat} {h : Hp} {d' : Nat} {Q' : Int32 → Hp → Prop} (hdd : d' < d) (hC : CI d' 213 [.ref 84] h Q') (kk : ∀ x h', Q' x h' → G X d 212 4 [some (.ref 84), none, none, none] [.int x] h') : G X d 212 0 [some (.ref 84), none, none, none] [] h := by
  refine g_aload_n d_212_0 rfl rfl ?_
  exact g_callVI (mj := 213) 9 [] [] d_212_1 wd_443 mo_213 mc_213 mv_213 rfl rfl rfl (Nat.le_of_ble_eq_true rfl) rfl hdd hC kk

theorem k_212_4 {X : GX} {d : Nat} {h : Hp} {s0 : Int32} (kt : s0 < 0 → G X d 212 23 [some (.ref 84), some (.int s0), none, none] [.ref 84] h) (kf : ¬ s0 < 0 → G X d 212 10 [some (.ref 84), some (.int s0), none, none] [.ref 84] h) : G X d 212 4 [some (.ref 84), none, none, none] [.int s0] h := by
  refine g_istore_n d_212_4 rfl (Nat.le_of_ble_eq_true rfl) rfl ?_
  refine g_aload_n d_212_5 rfl rfl ?_
  refine g_iload_n d_212_6 rfl rfl ?_
  exact g_if_lt (tgt := 23) d_212_7 (by decide) kt kf

theorem k_212_10 {X : GX} {d : Nat} {h : Hp} {v1 : Int32} {s0 : Nat} (kt : 8 ≤ (h 84 17) → G X d 212 23 [some (.ref 84), some (.int v1), none, none] [.ref s0] h) (kf : ¬ 8 ≤ (h 84 17) → G X d 212 19 [some (.ref 84), some (.int v1), none, none] [.ref s0] h) : G X d 212 10 [some (.ref 84), some (.int v1), none, none] [.ref s0] h := by
  refine g_aload_n d_212_10 rfl rfl ?_
  refine g_getf (ci := 9) (k := 17) d_212_11 wd_372 (Nat.le_of_ble_eq_true rfl) rfl rfl ?_
  refine g_bipush (v := 8) d_212_14 (by decide) ?_
  exact g_icmp_ge (tgt := 23) d_212_16 (by decide) kt kf

theorem k_212_19 {X : GX} {d : Nat} {h : Hp} {v1 : Int32} {s0 : Nat} {d' : Nat} {Q' : Hp → Prop} (o0 : sh s0 = (1, 9)) (hdd : d' < d) (hC : CV d' 215 [.ref s0, .int 1] h Q') (kk : ∀ h', Q' h' → G X d 212 27 [some (.ref 84), some (.int v1), none, none] [] h') : G X d 212 19 [some (.ref 84), some (.int v1), none, none] [.ref s0] h := by
  refine g_iconst (v := 1) d_212_19 (by decide) ?_
  refine g_goto (tgt := 24) d_212_20 (by decide) ?_
  exact g_callVV (mj := 215) 9 [.int 1] [] d_212_24 wd_451 mo_215 mc_215 mv_215 rfl rfl rfl (Nat.le_of_ble_eq_true rfl) o0 hdd hC kk

theorem k_212_23 {X : GX} {d : Nat} {h : Hp} {v1 : Int32} {s0 : Nat} {d' : Nat} {Q' : Hp → Prop} (o0 : sh s0 = (1, 9)) (hdd : d' < d) (hC : CV d' 215 [.ref s0, .int 0] h Q') (kk : ∀ h', Q' h' → G X d 212 27 [some (.ref 84), some (.int v1), none, none] [] h') : G X d 212 23 [some (.ref 84), some (.int v1), none, none] [.ref s0] h := by
  refine g_iconst (v := 0) d_212_23 (by decide) ?_
  exact g_callVV (mj := 215) 9 [.int 0] [] d_212_24 wd_451 mo_215 mc_215 mv_215 rfl rfl rfl (Nat.le_of_ble_eq_true rfl) o0 hdd hC kk

theorem k_212_27 {X : GX} {d : Nat} {h : Hp} {v1 : Int32} {d' : Nat} {Q' : Int32 → Hp → Prop} (hdd : d' < d) (hC : CI d' 214 [.ref 84, .long 249] h Q') (kk : ∀ x h', Q' x h' → G X d 212 39 [some (.ref 84), some (.int v1), some (.int (h 84 15)), none] [.int x] h') : G X d 212 27 [some (.ref 84), some (.int v1), none, none] [] h := by
  refine g_aload_n d_212_27 rfl rfl ?_
  refine g_getf (ci := 9) (k := 15) d_212_28 wd_370 (Nat.le_of_ble_eq_true rfl) rfl rfl ?_
  refine g_istore_n d_212_31 rfl (Nat.le_of_ble_eq_true rfl) rfl ?_
  refine g_aload_n d_212_32 rfl rfl ?_
  refine g_ldc2_w (v := 249) d_212_33 wd_452 ?_
  exact g_callVI (mj := 214) 9 [.long 249] [] d_212_36 wd_445 mo_214 mc_214 mv_214 rfl rfl rfl (Nat.le_of_ble_eq_true rfl) rfl hdd hC kk

theorem k_212_39 {X : GX} {d : Nat} {h : Hp} {v1 : Int32} {v2 : Int32} {s0 : Int32} (kt : s0 = 0 → G X d 212 50 [some (.ref 84), some (.int v1), some (.int v2), none] [] h) (kf : ¬ s0 = 0 → G X d 212 42 [some (.ref 84), some (.int v1), some (.int v2), none] [] h) : G X d 212 39 [some (.ref 84), some (.int v1), some (.int v2), none] [.int s0] h := by
  exact g_if_eq (tgt := 50) d_212_39 (by decide) kt kf

theorem k_212_42 {X : GX} {d : Nat} {h : Hp} {v1 : Int32} {v2 : Int32} {d' : Nat} {Q' : Hp → Prop} (hdd : d' < d) (hC : CV d' 210 [.ref 84] h Q') (kk : ∀ h', Q' h' → G X d 212 46 [some (.ref 84), some (.int v1), some (.int v2), none] [] h') : G X d 212 42 [some (.ref 84), some (.int v1), some (.int v2), none] [] h := by
  refine g_aload_n d_212_42 rfl rfl ?_
  exact g_callVV (mj := 210) 9 [] [] d_212_43 wd_434 mo_210 mc_210 mv_210 rfl rfl rfl (Nat.le_of_ble_eq_true rfl) rfl hdd hC kk

theorem k_212_46 {X : GX} {d : Nat} {h : Hp} {v1 : Int32} {v2 : Int32} {d' : Nat} {Q' : Hp → Prop} (hdd : d' < d) (hC : CV d' 216 [.ref 84] h Q') (kk : ∀ h', Q' h' → G X d 212 50 [some (.ref 84), some (.int v1), some (.int v2), none] [] h') : G X d 212 46 [some (.ref 84), some (.int v1), some (.int v2), none] [] h := by
  refine g_aload_n d_212_46 rfl rfl ?_
  exact g_callVV (mj := 216) 9 [] [] d_212_47 wd_453 mo_216 mc_216 mv_216 rfl rfl rfl (Nat.le_of_ble_eq_true rfl) rfl hdd hC kk

theorem k_212_50 {X : GX} {d : Nat} {h : Hp} {v1 : Int32} {v2 : Int32} {d' : Nat} {Q' : Int32 → Hp → Prop} (hdd : d' < d) (hC : CI d' 223 [.ref 84] h Q') (kk : ∀ x h', Q' x h' → G X d 212 54 [some (.ref 84), some (.int v1), some (.int v2), none] [.int x] h') : G X d 212 50 [some (.ref 84), some (.int v1), some (.int v2), none] [] h := by
  refine g_aload_n d_212_50 rfl rfl ?_
  exact g_callVI (mj := 223) 9 [] [] d_212_51 wd_468 mo_223 mc_223 mv_223 rfl rfl rfl (Nat.le_of_ble_eq_true rfl) rfl hdd hC kk

theorem k_212_54 {X : GX} {d : Nat} {h : Hp} {v1 : Int32} {v2 : Int32} {s0 : Int32} (kt : s0 < 0 → G X d 212 64 [some (.ref 84), some (.int v1), some (.int v2), some (.int s0)] [.ref 84] h) (kf : ¬ s0 < 0 → G X d 212 60 [some (.ref 84), some (.int v1), some (.int v2), some (.int s0)] [.ref 84] h) : G X d 212 54 [some (.ref 84), some (.int v1), some (.int v2), none] [.int s0] h := by
  refine g_istore_n d_212_54 rfl (Nat.le_of_ble_eq_true rfl) rfl ?_
  refine g_aload_n d_212_55 rfl rfl ?_
  refine g_iload_n d_212_56 rfl rfl ?_
  exact g_if_lt (tgt := 64) d_212_57 (by decide) kt kf

theorem k_212_60 {X : GX} {d : Nat} {h : Hp} {v1 : Int32} {v2 : Int32} {v3 : Int32} {s0 : Nat} {d' : Nat} {Q' : Hp → Prop} (o0 : sh s0 = (1, 9)) (hdd : d' < d) (hC : CV d' 215 [.ref s0, .int 1] h Q') (kk : ∀ h', Q' h' → G X d 212 68 [some (.ref 84), some (.int v1), some (.int v2), some (.int v3)] [] h') : G X d 212 60 [some (.ref 84), some (.int v1), some (.int v2), some (.int v3)] [.ref s0] h := by
  refine g_iconst (v := 1) d_212_60 (by decide) ?_
  refine g_goto (tgt := 65) d_212_61 (by decide) ?_
  exact g_callVV (mj := 215) 9 [.int 1] [] d_212_65 wd_451 mo_215 mc_215 mv_215 rfl rfl rfl (Nat.le_of_ble_eq_true rfl) o0 hdd hC kk

theorem k_212_64 {X : GX} {d : Nat} {h : Hp} {v1 : Int32} {v2 : Int32} {v3 : Int32} {s0 : Nat} {d' : Nat} {Q' : Hp → Prop} (o0 : sh s0 = (1, 9)) (hdd : d' < d) (hC : CV d' 215 [.ref s0, .int 0] h Q') (kk : ∀ h', Q' h' → G X d 212 68 [some (.ref 84), some (.int v1), some (.int v2), some (.int v3)] [] h') : G X d 212 64 [some (.ref 84), some (.int v1), some (.int v2), some (.int v3)] [.ref s0] h := by
  refine g_iconst (v := 0) d_212_64 (by decide) ?_
  exact g_callVV (mj := 215) 9 [.int 0] [] d_212_65 wd_451 mo_215 mc_215 mv_215 rfl rfl rfl (Nat.le_of_ble_eq_true rfl) o0 hdd hC kk

theorem k_212_68 {X : GX} {d : Nat} {h : Hp} {v1 : Int32} {v2 : Int32} {v3 : Int32} (kt : ¬ (h 84 12) = 0 → G X d 212 89 [some (.ref 84), some (.int v1), some (.int v2), some (.int v3)] [] h) (kf : (h 84 12) = 0 → G X d 212 75 [some (.ref 84), some (.int v1), some (.int v2), some (.int v3)] [] h) : G X d 212 68 [some (.ref 84), some (.int v1), some (.int v2), some (.int v3)] [] h := by
  refine g_aload_n d_212_68 rfl rfl ?_
  refine g_getf (ci := 9) (k := 12) d_212_69 wd_367 (Nat.le_of_ble_eq_true rfl) rfl rfl ?_
  exact g_if_ne (tgt := 89) d_212_72 (by decide) kt kf

theorem k_212_75 {X : GX} {d : Nat} {h : Hp} {v1 : Int32} {v2 : Int32} {v3 : Int32} {d' : Nat} {Q' : Int32 → Hp → Prop} (hdd : d' < d) (hC : CI d' 219 [.ref 84, .int 59] h Q') (kk : ∀ x h', Q' x h' → G X d 212 81 [some (.ref 84), some (.int v1), some (.int v2), some (.int v3)] [.int x] h') : G X d 212 75 [some (.ref 84), some (.int v1), some (.int v2), some (.int v3)] [] h := by
  refine g_aload_n d_212_75 rfl rfl ?_
  refine g_bipush (v := 59) d_212_76 (by decide) ?_
  exact g_callVI (mj := 219) 9 [.int 59] [] d_212_78 wd_457 mo_219 mc_219 mv_219 rfl rfl rfl (Nat.le_of_ble_eq_true rfl) rfl hdd hC kk

theorem k_212_81 {X : GX} {d : Nat} {h : Hp} {v1 : Int32} {v2 : Int32} {v3 : Int32} {s0 : Int32} (kt : ¬ s0 = 0 → G X d 212 89 [some (.ref 84), some (.int v1), some (.int v2), some (.int v3)] [] h) (kf : s0 = 0 → G X d 212 84 [some (.ref 84), some (.int v1), some (.int v2), some (.int v3)] [] h) : G X d 212 81 [some (.ref 84), some (.int v1), some (.int v2), some (.int v3)] [.int s0] h := by
  exact g_if_ne (tgt := 89) d_212_81 (by decide) kt kf

theorem k_212_84 {X : GX} {d : Nat} {h : Hp} {v1 : Int32} {v2 : Int32} {v3 : Int32} (kt : ¬ ((wr h 84 12 1) 84 12) = 0 → G X d 212 167 [none, none, none, none] [] (wr h 84 12 1)) (kf : ((wr h 84 12 1) 84 12) = 0 → G X d 212 96 [some (.ref 84), some (.int v1), some (.int v2), some (.int v3)] [] (wr h 84 12 1)) : G X d 212 84 [some (.ref 84), some (.int v1), some (.int v2), some (.int v3)] [] h := by
  refine g_aload_n d_212_84 rfl rfl ?_
  refine g_iconst (v := 1) d_212_85 (by decide) ?_
  refine g_putf (ci := 9) (k := 12) d_212_86 wd_367 (Nat.le_of_ble_eq_true rfl) (Nat.le_of_ble_eq_true rfl) rfl rfl (Or.inr ⟨rfl, rfl, z01_1⟩) rfl ?_
  refine g_aload_n d_212_89 rfl rfl ?_
  refine g_getf (ci := 9) (k := 12) d_212_90 wd_367 (Nat.le_of_ble_eq_true rfl) rfl rfl ?_
  exact g_if_ne (tgt := 167) d_212_93 (by decide) (fun q => g_mask [false, false, false, false] (kt q)) kf

theorem k_212_89 {X : GX} {d : Nat} {h : Hp} {v1 : Int32} {v2 : Int32} {v3 : Int32} (kt : ¬ (h 84 12) = 0 → G X d 212 167 [none, none, none, none] [] h) (kf : (h 84 12) = 0 → G X d 212 96 [some (.ref 84), some (.int v1), some (.int v2), some (.int v3)] [] h) : G X d 212 89 [some (.ref 84), some (.int v1), some (.int v2), some (.int v3)] [] h := by
  refine g_aload_n d_212_89 rfl rfl ?_
  refine g_getf (ci := 9) (k := 12) d_212_90 wd_367 (Nat.le_of_ble_eq_true rfl) rfl rfl ?_
  exact g_if_ne (tgt := 167) d_212_93 (by decide) (fun q => g_mask [false, false, false, false] (kt q)) kf

theorem k_212_96 {X : GX} {d : Nat} {h : Hp} {v1 : Int32} {v2 : Int32} {v3 : Int32} {d' : Nat} {Q' : Hp → Prop} (b0 : IA 91 (4 * (h 84 17))) (b1 : IA 91 ((4 * ((wr h 91 (Int32.toNatClampNeg (4 * (h 84 17))) v1) 84 17)) + 1)) (b2 : IA 91 ((4 * ((wr (wr h 91 (Int32.toNatClampNeg (4 * (h 84 17))) v1) 91 (Int32.toNatClampNeg ((4 * ((wr h 91 (Int32.toNatClampNeg (4 * (h 84 17))) v1) 84 17)) + 1)) v3) 84 17)) + 2)) (b3 : IA 91 ((4 * ((wr (wr (wr h 91 (Int32.toNatClampNeg (4 * (h 84 17))) v1) 91 (Int32.toNatClampNeg ((4 * ((wr h 91 (Int32.toNatClampNeg (4 * (h 84 17))) v1) 84 17)) + 1)) v3) 91 (Int32.toNatClampNeg ((4 * ((wr (wr h 91 (Int32.toNatClampNeg (4 * (h 84 17))) v1) 91 (Int32.toNatClampNeg ((4 * ((wr h 91 (Int32.toNatClampNeg (4 * (h 84 17))) v1) 84 17)) + 1)) v3) 84 17)) + 2)) v2) 84 17)) + 3)) (hdd : d' < d) (hC : CV d' 210 [.ref 84] (wr (wr (wr (wr (wr h 91 (Int32.toNatClampNeg (4 * (h 84 17))) v1) 91 (Int32.toNatClampNeg ((4 * ((wr h 91 (Int32.toNatClampNeg (4 * (h 84 17))) v1) 84 17)) + 1)) v3) 91 (Int32.toNatClampNeg ((4 * ((wr (wr h 91 (Int32.toNatClampNeg (4 * (h 84 17))) v1) 91 (Int32.toNatClampNeg ((4 * ((wr h 91 (Int32.toNatClampNeg (4 * (h 84 17))) v1) 84 17)) + 1)) v3) 84 17)) + 2)) v2) 91 (Int32.toNatClampNeg ((4 * ((wr (wr (wr h 91 (Int32.toNatClampNeg (4 * (h 84 17))) v1) 91 (Int32.toNatClampNeg ((4 * ((wr h 91 (Int32.toNatClampNeg (4 * (h 84 17))) v1) 84 17)) + 1)) v3) 91 (Int32.toNatClampNeg ((4 * ((wr (wr h 91 (Int32.toNatClampNeg (4 * (h 84 17))) v1) 91 (Int32.toNatClampNeg ((4 * ((wr h 91 (Int32.toNatClampNeg (4 * (h 84 17))) v1) 84 17)) + 1)) v3) 84 17)) + 2)) v2) 84 17)) + 3)) ((wr (wr (wr h 91 (Int32.toNatClampNeg (4 * (h 84 17))) v1) 91 (Int32.toNatClampNeg ((4 * ((wr h 91 (Int32.toNatClampNeg (4 * (h 84 17))) v1) 84 17)) + 1)) v3) 91 (Int32.toNatClampNeg ((4 * ((wr (wr h 91 (Int32.toNatClampNeg (4 * (h 84 17))) v1) 91 (Int32.toNatClampNeg ((4 * ((wr h 91 (Int32.toNatClampNeg (4 * (h 84 17))) v1) 84 17)) + 1)) v3) 84 17)) + 2)) v2) 84 15)) 84 17 (((wr (wr (wr (wr h 91 (Int32.toNatClampNeg (4 * (h 84 17))) v1) 91 (Int32.toNatClampNeg ((4 * ((wr h 91 (Int32.toNatClampNeg (4 * (h 84 17))) v1) 84 17)) + 1)) v3) 91 (Int32.toNatClampNeg ((4 * ((wr (wr h 91 (Int32.toNatClampNeg (4 * (h 84 17))) v1) 91 (Int32.toNatClampNeg ((4 * ((wr h 91 (Int32.toNatClampNeg (4 * (h 84 17))) v1) 84 17)) + 1)) v3) 84 17)) + 2)) v2) 91 (Int32.toNatClampNeg ((4 * ((wr (wr (wr h 91 (Int32.toNatClampNeg (4 * (h 84 17))) v1) 91 (Int32.toNatClampNeg ((4 * ((wr h 91 (Int32.toNatClampNeg (4 * (h 84 17))) v1) 84 17)) + 1)) v3) 91 (Int32.toNatClampNeg ((4 * ((wr (wr h 91 (Int32.toNatClampNeg (4 * (h 84 17))) v1) 91 (Int32.toNatClampNeg ((4 * ((wr h 91 (Int32.toNatClampNeg (4 * (h 84 17))) v1) 84 17)) + 1)) v3) 84 17)) + 2)) v2) 84 17)) + 3)) ((wr (wr (wr h 91 (Int32.toNatClampNeg (4 * (h 84 17))) v1) 91 (Int32.toNatClampNeg ((4 * ((wr h 91 (Int32.toNatClampNeg (4 * (h 84 17))) v1) 84 17)) + 1)) v3) 91 (Int32.toNatClampNeg ((4 * ((wr (wr h 91 (Int32.toNatClampNeg (4 * (h 84 17))) v1) 91 (Int32.toNatClampNeg ((4 * ((wr h 91 (Int32.toNatClampNeg (4 * (h 84 17))) v1) 84 17)) + 1)) v3) 84 17)) + 2)) v2) 84 15)) 84 17) + 1)) Q') (kk : ∀ h', Q' h' → G X d 212 167 [none, none, none, none] [] h') : G X d 212 96 [some (.ref 84), some (.int v1), some (.int v2), some (.int v3)] [] h := by
  refine g_aload_n d_212_96 rfl rfl ?_
  refine g_getf (ci := 9) (k := 16) d_212_97 wd_371 (Nat.le_of_ble_eq_true rfl) rfl rfl ?_
  refine g_iconst (v := 4) d_212_100 (by decide) ?_
  refine g_aload_n d_212_101 rfl rfl ?_
  refine g_getf (ci := 9) (k := 17) d_212_102 wd_372 (Nat.le_of_ble_eq_true rfl) rfl rfl ?_
  refine g_imul d_212_105 ?_
  refine g_iload_n d_212_106 rfl rfl ?_
  refine g_iast d_212_107 b0 ?_
  refine g_aload_n d_212_108 rfl rfl ?_
  refine g_getf (ci := 9) (k := 16) d_212_109 wd_371 (Nat.le_of_ble_eq_true rfl) rfl rfl ?_
  refine g_iconst (v := 4) d_212_112 (by decide) ?_
  refine g_aload_n d_212_113 rfl rfl ?_
  refine g_getf (ci := 9) (k := 17) d_212_114 wd_372 (Nat.le_of_ble_eq_true rfl) rfl rfl ?_
  refine g_imul d_212_117 ?_
  refine g_iconst (v := 1) d_212_118 (by decide) ?_
  refine g_iadd d_212_119 ?_
  refine g_iload_n d_212_120 rfl rfl ?_
  refine g_iast d_212_121 b1 ?_
  refine g_aload_n d_212_122 rfl rfl ?_
  refine g_getf (ci := 9) (k := 16) d_212_123 wd_371 (Nat.le_of_ble_eq_true rfl) rfl rfl ?_
  refine g_iconst (v := 4) d_212_126 (by decide) ?_
  refine g_aload_n d_212_127 rfl rfl ?_
  refine g_getf (ci := 9) (k := 17) d_212_128 wd_372 (Nat.le_of_ble_eq_true rfl) rfl rfl ?_
  refine g_imul d_212_131 ?_
  refine g_iconst (v := 2) d_212_132 (by decide) ?_
  refine g_iadd d_212_133 ?_
  refine g_iload_n d_212_134 rfl rfl ?_
  refine g_iast d_212_135 b2 ?_
  refine g_aload_n d_212_136 rfl rfl ?_
  refine g_getf (ci := 9) (k := 16) d_212_137 wd_371 (Nat.le_of_ble_eq_true rfl) rfl rfl ?_
  refine g_iconst (v := 4) d_212_140 (by decide) ?_
  refine g_aload_n d_212_141 rfl rfl ?_
  refine g_getf (ci := 9) (k := 17) d_212_142 wd_372 (Nat.le_of_ble_eq_true rfl) rfl rfl ?_
  refine g_imul d_212_145 ?_
  refine g_iconst (v := 3) d_212_146 (by decide) ?_
  refine g_iadd d_212_147 ?_
  refine g_aload_n d_212_148 rfl rfl ?_
  refine g_getf (ci := 9) (k := 15) d_212_149 wd_370 (Nat.le_of_ble_eq_true rfl) rfl rfl ?_
  refine g_iast d_212_152 b3 ?_
  refine g_aload_n d_212_153 rfl rfl ?_
  refine g_dup d_212_154 rfl ?_
  refine g_getf (ci := 9) (k := 17) d_212_155 wd_372 (Nat.le_of_ble_eq_true rfl) rfl rfl ?_
  refine g_iconst (v := 1) d_212_158 (by decide) ?_
  refine g_iadd d_212_159 ?_
  refine g_putf (ci := 9) (k := 17) d_212_160 wd_372 (Nat.le_of_ble_eq_true rfl) (Nat.le_of_ble_eq_true rfl) rfl rfl (Or.inl ⟨rfl, rfl⟩) rfl ?_
  refine g_aload_n d_212_163 rfl rfl ?_
  exact g_callVV (mj := 210) 9 [] [] d_212_164 wd_434 mo_210 mc_210 mv_210 rfl rfl rfl (Nat.le_of_ble_eq_true rfl) rfl hdd hC (fun h' q => g_mask [false, false, false, false] (kk h' q))

theorem k_212_167 {X : GX} {d : Nat} {h : Hp} (hq : RtX X none h) : G X d 212 167 [none, none, none, none] [] h := by
  exact g_retv d_212_167 rfl hq

/-! 213 PlayedTruthModel.kindHere()I -/
theorem k_213_0 {X : GX} {d : Nat} {h : Hp} {d' : Nat} {Q' : Int32 → Hp → Prop} (hdd : d' < d) (hC : CI d' 214 [.ref 84, .long 10160456] h Q') (kk : ∀ x h', Q' x h' → G X d 213 7 [some (.ref 84)] [.int x] h') : G X d 213 0 [some (.ref 84)] [] h := by
  refine g_aload_n d_213_0 rfl rfl ?_
  refine g_ldc2_w (v := 10160456) d_213_1 wd_444 ?_
  exact g_callVI (mj := 214) 9 [.long 10160456] [] d_213_4 wd_445 mo_214 mc_214 mv_214 rfl rfl rfl (Nat.le_of_ble_eq_true rfl) rfl hdd hC kk

theorem k_213_7 {X : GX} {d : Nat} {h : Hp} {s0 : Int32} (kt : s0 = 0 → G X d 213 14 [some (.ref 84)] [] h) (kf : ¬ s0 = 0 → G X d 213 10 [none] [] h) : G X d 213 7 [some (.ref 84)] [.int s0] h := by
  exact g_if_eq (tgt := 14) d_213_7 (by decide) kt (fun q => g_mask [false] (kf q))

theorem k_213_10 {X : GX} {d : Nat} {h : Hp} (hq : RtX X (some (.int 0)) h) : G X d 213 10 [none] [] h := by
  refine g_iconst (v := 0) d_213_10 (by decide) ?_
  refine g_goto (tgt := 85) d_213_11 (by decide) ?_
  exact g_reti d_213_85 rfl hq

theorem k_213_14 {X : GX} {d : Nat} {h : Hp} {d' : Nat} {Q' : Int32 → Hp → Prop} (hdd : d' < d) (hC : CI d' 214 [.ref 84, .long 10989714] h Q') (kk : ∀ x h', Q' x h' → G X d 213 21 [some (.ref 84)] [.int x] h') : G X d 213 14 [some (.ref 84)] [] h := by
  refine g_aload_n d_213_14 rfl rfl ?_
  refine g_ldc2_w (v := 10989714) d_213_15 wd_446 ?_
  exact g_callVI (mj := 214) 9 [.long 10989714] [] d_213_18 wd_445 mo_214 mc_214 mv_214 rfl rfl rfl (Nat.le_of_ble_eq_true rfl) rfl hdd hC kk

theorem k_213_21 {X : GX} {d : Nat} {h : Hp} {s0 : Int32} (kt : s0 = 0 → G X d 213 28 [some (.ref 84)] [] h) (kf : ¬ s0 = 0 → G X d 213 24 [none] [] h) : G X d 213 21 [some (.ref 84)] [.int s0] h := by
  exact g_if_eq (tgt := 28) d_213_21 (by decide) kt (fun q => g_mask [false] (kf q))

theorem k_213_24 {X : GX} {d : Nat} {h : Hp} (hq : RtX X (some (.int 1)) h) : G X d 213 24 [none] [] h := by
  refine g_iconst (v := 1) d_213_24 (by decide) ?_
  refine g_goto (tgt := 85) d_213_25 (by decide) ?_
  exact g_reti d_213_85 rfl hq

theorem k_213_28 {X : GX} {d : Nat} {h : Hp} {d' : Nat} {Q' : Int32 → Hp → Prop} (hdd : d' < d) (hC : CI d' 214 [.ref 84, .long 94196] h Q') (kk : ∀ x h', Q' x h' → G X d 213 35 [some (.ref 84)] [.int x] h') : G X d 213 28 [some (.ref 84)] [] h := by
  refine g_aload_n d_213_28 rfl rfl ?_
  refine g_ldc2_w (v := 94196) d_213_29 wd_447 ?_
  exact g_callVI (mj := 214) 9 [.long 94196] [] d_213_32 wd_445 mo_214 mc_214 mv_214 rfl rfl rfl (Nat.le_of_ble_eq_true rfl) rfl hdd hC kk

theorem k_213_35 {X : GX} {d : Nat} {h : Hp} {s0 : Int32} (kt : s0 = 0 → G X d 213 42 [some (.ref 84)] [] h) (kf : ¬ s0 = 0 → G X d 213 38 [none] [] h) : G X d 213 35 [some (.ref 84)] [.int s0] h := by
  exact g_if_eq (tgt := 42) d_213_35 (by decide) kt (fun q => g_mask [false] (kf q))

theorem k_213_38 {X : GX} {d : Nat} {h : Hp} (hq : RtX X (some (.int 2)) h) : G X d 213 38 [none] [] h := by
  refine g_iconst (v := 2) d_213_38 (by decide) ?_
  refine g_goto (tgt := 85) d_213_39 (by decide) ?_
  exact g_reti d_213_85 rfl hq

theorem k_213_42 {X : GX} {d : Nat} {h : Hp} {d' : Nat} {Q' : Int32 → Hp → Prop} (hdd : d' < d) (hC : CI d' 214 [.ref 84, .long 284079062] h Q') (kk : ∀ x h', Q' x h' → G X d 213 49 [some (.ref 84)] [.int x] h') : G X d 213 42 [some (.ref 84)] [] h := by
  refine g_aload_n d_213_42 rfl rfl ?_
  refine g_ldc2_w (v := 284079062) d_213_43 wd_448 ?_
  exact g_callVI (mj := 214) 9 [.long 284079062] [] d_213_46 wd_445 mo_214 mc_214 mv_214 rfl rfl rfl (Nat.le_of_ble_eq_true rfl) rfl hdd hC kk

theorem k_213_49 {X : GX} {d : Nat} {h : Hp} {s0 : Int32} (kt : s0 = 0 → G X d 213 56 [some (.ref 84)] [] h) (kf : ¬ s0 = 0 → G X d 213 52 [none] [] h) : G X d 213 49 [some (.ref 84)] [.int s0] h := by
  exact g_if_eq (tgt := 56) d_213_49 (by decide) kt (fun q => g_mask [false] (kf q))

theorem k_213_52 {X : GX} {d : Nat} {h : Hp} (hq : RtX X (some (.int 3)) h) : G X d 213 52 [none] [] h := by
  refine g_iconst (v := 3) d_213_52 (by decide) ?_
  refine g_goto (tgt := 85) d_213_53 (by decide) ?_
  exact g_reti d_213_85 rfl hq

theorem k_213_56 {X : GX} {d : Nat} {h : Hp} {d' : Nat} {Q' : Int32 → Hp → Prop} (hdd : d' < d) (hC : CI d' 214 [.ref 84, .long 1960177] h Q') (kk : ∀ x h', Q' x h' → G X d 213 63 [some (.ref 84)] [.int x] h') : G X d 213 56 [some (.ref 84)] [] h := by
  refine g_aload_n d_213_56 rfl rfl ?_
  refine g_ldc2_w (v := 1960177) d_213_57 wd_449 ?_
  exact g_callVI (mj := 214) 9 [.long 1960177] [] d_213_60 wd_445 mo_214 mc_214 mv_214 rfl rfl rfl (Nat.le_of_ble_eq_true rfl) rfl hdd hC kk

theorem k_213_63 {X : GX} {d : Nat} {h : Hp} {s0 : Int32} (kt : s0 = 0 → G X d 213 70 [some (.ref 84)] [] h) (kf : ¬ s0 = 0 → G X d 213 66 [none] [] h) : G X d 213 63 [some (.ref 84)] [.int s0] h := by
  exact g_if_eq (tgt := 70) d_213_63 (by decide) kt (fun q => g_mask [false] (kf q))

theorem k_213_66 {X : GX} {d : Nat} {h : Hp} (hq : RtX X (some (.int 4)) h) : G X d 213 66 [none] [] h := by
  refine g_iconst (v := 4) d_213_66 (by decide) ?_
  refine g_goto (tgt := 85) d_213_67 (by decide) ?_
  exact g_reti d_213_85 rfl hq

theorem k_213_70 {X : GX} {d : Nat} {h : Hp} {d' : Nat} {Q' : Int32 → Hp → Prop} (hdd : d' < d) (hC : CI d' 214 [.ref 84, .long 6943085] h Q') (kk : ∀ x h', Q' x h' → G X d 213 77 [none] [.int x] h') : G X d 213 70 [some (.ref 84)] [] h := by
  refine g_aload_n d_213_70 rfl rfl ?_
  refine g_ldc2_w (v := 6943085) d_213_71 wd_450 ?_
  exact g_callVI (mj := 214) 9 [.long 6943085] [] d_213_74 wd_445 mo_214 mc_214 mv_214 rfl rfl rfl (Nat.le_of_ble_eq_true rfl) rfl hdd hC (fun x h' q => g_mask [false] (kk x h' q))

theorem k_213_77 {X : GX} {d : Nat} {h : Hp} {s0 : Int32} (kt : s0 = 0 → G X d 213 84 [none] [] h) (kf : ¬ s0 = 0 → G X d 213 80 [none] [] h) : G X d 213 77 [none] [.int s0] h := by
  exact g_if_eq (tgt := 84) d_213_77 (by decide) kt kf

theorem k_213_80 {X : GX} {d : Nat} {h : Hp} (hq : RtX X (some (.int 5)) h) : G X d 213 80 [none] [] h := by
  refine g_iconst (v := 5) d_213_80 (by decide) ?_
  refine g_goto (tgt := 85) d_213_81 (by decide) ?_
  exact g_reti d_213_85 rfl hq

theorem k_213_84 {X : GX} {d : Nat} {h : Hp} (hq : RtX X (some (.int ((-1)))) h) : G X d 213 84 [none] [] h := by
  refine g_iconst (v := (-1)) d_213_84 (by decide) ?_
  exact g_reti d_213_85 rfl hq

/-! 214 PlayedTruthModel.isWord(J)Z -/
theorem k_214_0 {X : GX} {d : Nat} {h : Hp} {v1 : Int64} (kt : ¬ (h 84 10) = 1 → G X d 214 28 [none, none, none] [] h) (kf : (h 84 10) = 1 → G X d 214 8 [some (.ref 84), some (.long v1), none] [] h) : G X d 214 0 [some (.ref 84), some (.long v1), none] [] h := by
  refine g_aload_n d_214_0 rfl rfl ?_
  refine g_getf (ci := 9) (k := 10) d_214_1 wd_365 (Nat.le_of_ble_eq_true rfl) rfl rfl ?_
  refine g_iconst (v := 1) d_214_4 (by decide) ?_
  exact g_icmp_ne (tgt := 28) d_214_5 (by decide) (fun q => g_mask [false, false, false] (kt q)) kf

theorem k_214_8 {X : GX} {d : Nat} {h : Hp} {v1 : Int64} (kt : ¬ (lg_cmp (rdL (h 84)) v1) = 0 → G X d 214 28 [none, none, none] [] h) (kf : (lg_cmp (rdL (h 84)) v1) = 0 → G X d 214 17 [some (.ref 84), none, none] [] h) : G X d 214 8 [some (.ref 84), some (.long v1), none] [] h := by
  refine g_aload_n d_214_8 rfl rfl ?_
  refine g_getf (ci := 9) (k := 11) d_214_9 wd_366 (Nat.le_of_ble_eq_true rfl) rfl rfl ?_
  refine g_lload_n d_214_12 rfl rfl ?_
  refine g_lcmp d_214_13 ?_
  exact g_if_ne (tgt := 28) d_214_14 (by decide) (fun q => g_mask [false, false, false] (kt q)) (fun q => g_mask [true, false, false] (kf q))

theorem k_214_17 {X : GX} {d : Nat} {h : Hp} (kt : ¬ (h 84 12) = 0 → G X d 214 28 [none, none, none] [] h) (kf : (h 84 12) = 0 → G X d 214 24 [none, none, none] [] h) : G X d 214 17 [some (.ref 84), none, none] [] h := by
  refine g_aload_n d_214_17 rfl rfl ?_
  refine g_getf (ci := 9) (k := 12) d_214_18 wd_367 (Nat.le_of_ble_eq_true rfl) rfl rfl ?_
  exact g_if_ne (tgt := 28) d_214_21 (by decide) (fun q => g_mask [false, false, false] (kt q)) (fun q => g_mask [false, false, false] (kf q))

theorem k_214_24 {X : GX} {d : Nat} {h : Hp} (hq : RtX X (some (.int 1)) h) : G X d 214 24 [none, none, none] [] h := by
  refine g_iconst (v := 1) d_214_24 (by decide) ?_
  refine g_goto (tgt := 29) d_214_25 (by decide) ?_
  exact g_retz d_214_29 rfl z01_1 hq

theorem k_214_28 {X : GX} {d : Nat} {h : Hp} (hq : RtX X (some (.int 0)) h) : G X d 214 28 [none, none, none] [] h := by
  refine g_iconst (v := 0) d_214_28 (by decide) ?_
  exact g_retz d_214_29 rfl z01_0 hq

/-! 215 PlayedTruthModel.goesBy(Z)V -/
theorem k_215_0 {X : GX} {d : Nat} {h : Hp} {v1 : Int32} (kt : ¬ (h 84 12) = 0 → G X d 215 12 [some (.ref 84), none] [.ref 84] h) (kf : (h 84 12) = 0 → G X d 215 8 [some (.ref 84), some (.int v1)] [.ref 84] h) : G X d 215 0 [some (.ref 84), some (.int v1)] [] h := by
  refine g_aload_n d_215_0 rfl rfl ?_
  refine g_aload_n d_215_1 rfl rfl ?_
  refine g_getf (ci := 9) (k := 12) d_215_2 wd_367 (Nat.le_of_ble_eq_true rfl) rfl rfl ?_
  exact g_if_ne (tgt := 12) d_215_5 (by decide) (fun q => g_mask [true, false] (kt q)) kf

theorem k_215_8 {X : GX} {d : Nat} {h : Hp} {v1 : Int32} {s0 : Nat} (kt : ¬ v1 = 0 → G X d 215 16 [some (.ref 84), none] [.ref s0] h) (kf : v1 = 0 → G X d 215 12 [some (.ref 84), none] [.ref s0] h) : G X d 215 8 [some (.ref 84), some (.int v1)] [.ref s0] h := by
  refine g_iload_n d_215_8 rfl rfl ?_
  exact g_if_ne (tgt := 16) d_215_9 (by decide) (fun q => g_mask [true, false] (kt q)) (fun q => g_mask [true, false] (kf q))

theorem k_215_12 {X : GX} {d : Nat} {h : Hp} {s0 : Nat} (o0 : sh s0 = (1, 9)) (kt : ¬ ((wr h s0 12 1) 84 12) = 0 → G X d 215 31 [none, none] [] (wr h s0 12 1)) (kf : ((wr h s0 12 1) 84 12) = 0 → G X d 215 27 [some (.ref 84), none] [] (wr h s0 12 1)) : G X d 215 12 [some (.ref 84), none] [.ref s0] h := by
  refine g_iconst (v := 1) d_215_12 (by decide) ?_
  refine g_goto (tgt := 17) d_215_13 (by decide) ?_
  refine g_putf (ci := 9) (k := 12) d_215_17 wd_367 (Nat.le_of_ble_eq_true rfl) (Nat.le_of_ble_eq_true rfl) rfl rfl (Or.inr ⟨rfl, rfl, z01_1⟩) o0 ?_
  refine g_aload_n d_215_20 rfl rfl ?_
  refine g_getf (ci := 9) (k := 12) d_215_21 wd_367 (Nat.le_of_ble_eq_true rfl) rfl rfl ?_
  exact g_if_ne (tgt := 31) d_215_24 (by decide) (fun q => g_mask [false, false] (kt q)) kf

theorem k_215_16 {X : GX} {d : Nat} {h : Hp} {s0 : Nat} (o0 : sh s0 = (1, 9)) (kt : ¬ ((wr h s0 12 0) 84 12) = 0 → G X d 215 31 [none, none] [] (wr h s0 12 0)) (kf : ((wr h s0 12 0) 84 12) = 0 → G X d 215 27 [some (.ref 84), none] [] (wr h s0 12 0)) : G X d 215 16 [some (.ref 84), none] [.ref s0] h := by
  refine g_iconst (v := 0) d_215_16 (by decide) ?_
  refine g_putf (ci := 9) (k := 12) d_215_17 wd_367 (Nat.le_of_ble_eq_true rfl) (Nat.le_of_ble_eq_true rfl) rfl rfl (Or.inr ⟨rfl, rfl, z01_0⟩) o0 ?_
  refine g_aload_n d_215_20 rfl rfl ?_
  refine g_getf (ci := 9) (k := 12) d_215_21 wd_367 (Nat.le_of_ble_eq_true rfl) rfl rfl ?_
  exact g_if_ne (tgt := 31) d_215_24 (by decide) (fun q => g_mask [false, false] (kt q)) kf

theorem k_215_27 {X : GX} {d : Nat} {h : Hp} {d' : Nat} {Q' : Hp → Prop} (hdd : d' < d) (hC : CV d' 210 [.ref 84] h Q') (kk : ∀ h', Q' h' → G X d 215 31 [none, none] [] h') : G X d 215 27 [some (.ref 84), none] [] h := by
  refine g_aload_n d_215_27 rfl rfl ?_
  exact g_callVV (mj := 210) 9 [] [] d_215_28 wd_434 mo_210 mc_210 mv_210 rfl rfl rfl (Nat.le_of_ble_eq_true rfl) rfl hdd hC (fun h' q => g_mask [false, false] (kk h' q))

theorem k_215_31 {X : GX} {d : Nat} {h : Hp} (hq : RtX X none h) : G X d 215 31 [none, none] [] h := by
  exact g_retv d_215_31 rfl hq

/-! 216 PlayedTruthModel.either()V -/
theorem k_216_0 {X : GX} {d : Nat} {h : Hp} (kt : (h 84 12) = 0 → G X d 216 8 [some (.ref 84)] [] h) (kf : ¬ (h 84 12) = 0 → G X d 216 7 [none] [] h) : G X d 216 0 [some (.ref 84)] [] h := by
  refine g_aload_n d_216_0 rfl rfl ?_
  refine g_getf (ci := 9) (k := 12) d_216_1 wd_367 (Nat.le_of_ble_eq_true rfl) rfl rfl ?_
  exact g_if_eq (tgt := 8) d_216_4 (by decide) kt (fun q => g_mask [false] (kf q))

theorem k_216_7 {X : GX} {d : Nat} {h : Hp} (hq : RtX X none h) : G X d 216 7 [none] [] h := by
  exact g_retv d_216_7 rfl hq

theorem k_216_8 {X : GX} {d : Nat} {h : Hp} {d' : Nat} {Q' : Hp → Prop} (hdd : d' < d) (hC : CV d' 217 [.ref 84] h Q') (kk : ∀ h', Q' h' → G X d 216 12 [some (.ref 84)] [] h') : G X d 216 8 [some (.ref 84)] [] h := by
  refine g_aload_n d_216_8 rfl rfl ?_
  exact g_callVV (mj := 217) 9 [] [] d_216_9 wd_454 mo_217 mc_217 mv_217 rfl rfl rfl (Nat.le_of_ble_eq_true rfl) rfl hdd hC kk

theorem k_216_12 {X : GX} {d : Nat} {h : Hp} {d' : Nat} {Q' : Int32 → Hp → Prop} (hdd : d' < d) (hC : CI d' 214 [.ref 84, .long 423] h Q') (kk : ∀ x h', Q' x h' → G X d 216 19 [some (.ref 84)] [.int x] h') : G X d 216 12 [some (.ref 84)] [] h := by
  refine g_aload_n d_216_12 rfl rfl ?_
  refine g_ldc2_w (v := 423) d_216_13 wd_467 ?_
  exact g_callVI (mj := 214) 9 [.long 423] [] d_216_16 wd_445 mo_214 mc_214 mv_214 rfl rfl rfl (Nat.le_of_ble_eq_true rfl) rfl hdd hC kk

theorem k_216_19 {X : GX} {d : Nat} {h : Hp} {s0 : Int32} (kt : s0 = 0 → G X d 216 40 [none] [] h) (kf : ¬ s0 = 0 → G X d 216 22 [some (.ref 84)] [] h) : G X d 216 19 [some (.ref 84)] [.int s0] h := by
  exact g_if_eq (tgt := 40) d_216_19 (by decide) (fun q => g_mask [false] (kt q)) kf

theorem k_216_22 {X : GX} {d : Nat} {h : Hp} {d' : Nat} {Q' : Hp → Prop} (hdd : d' < d) (hC : CV d' 210 [.ref 84] h Q') (kk : ∀ h', Q' h' → G X d 216 26 [some (.ref 84)] [] h') : G X d 216 22 [some (.ref 84)] [] h := by
  refine g_aload_n d_216_22 rfl rfl ?_
  exact g_callVV (mj := 210) 9 [] [] d_216_23 wd_434 mo_210 mc_210 mv_210 rfl rfl rfl (Nat.le_of_ble_eq_true rfl) rfl hdd hC kk

theorem k_216_26 {X : GX} {d : Nat} {h : Hp} {d' : Nat} {Q' : Hp → Prop} (hdd : d' < d) (hC : CV d' 217 [.ref 84] h Q') (kk : ∀ h', Q' h' → G X d 216 30 [some (.ref 84)] [] h') : G X d 216 26 [some (.ref 84)] [] h := by
  refine g_aload_n d_216_26 rfl rfl ?_
  exact g_callVV (mj := 217) 9 [] [] d_216_27 wd_454 mo_217 mc_217 mv_217 rfl rfl rfl (Nat.le_of_ble_eq_true rfl) rfl hdd hC kk

theorem k_216_30 {X : GX} {d : Nat} {h : Hp} {d' : Nat} {Q' : Hp → Prop} (hdd : d' < d) (hC : CV d' 222 [.ref 84, .int 20124] h Q') (kk : ∀ h', Q' h' → G X d 216 37 [some (.ref 84)] [] h') : G X d 216 30 [some (.ref 84)] [] h := by
  refine g_aload_n d_216_30 rfl rfl ?_
  refine g_sipush (v := 20124) d_216_31 (by decide) ?_
  exact g_callVV (mj := 222) 9 [.int 20124] [] d_216_34 wd_465 mo_222 mc_222 mv_222 rfl rfl rfl (Nat.le_of_ble_eq_true rfl) rfl hdd hC kk

theorem k_216_37 {X : GX} {d : Nat} {h : Hp} (kk : G X d 216 12 [some (.ref 84)] [] h) : G X d 216 37 [some (.ref 84)] [] h := by
  refine g_goto (tgt := 12) d_216_37 (by decide) ?_
  exact kk

theorem k_216_40 {X : GX} {d : Nat} {h : Hp} (hq : RtX X none h) : G X d 216 40 [none] [] h := by
  exact g_retv d_216_40 rfl hq

/-! 217 PlayedTruthModel.both()V -/
theorem k_217_0 {X : GX} {d : Nat} {h : Hp} {d' : Nat} {Q' : Hp → Prop} (hdd : d' < d) (hC : CV d' 218 [.ref 84] h Q') (kk : ∀ h', Q' h' → G X d 217 4 [some (.ref 84)] [] h') : G X d 217 0 [some (.ref 84)] [] h := by
  refine g_aload_n d_217_0 rfl rfl ?_
  exact g_callVV (mj := 218) 9 [] [] d_217_1 wd_455 mo_218 mc_218 mv_218 rfl rfl rfl (Nat.le_of_ble_eq_true rfl) rfl hdd hC kk

theorem k_217_4 {X : GX} {d : Nat} {h : Hp} {d' : Nat} {Q' : Int32 → Hp → Prop} (hdd : d' < d) (hC : CI d' 214 [.ref 84, .long 1111] h Q') (kk : ∀ x h', Q' x h' → G X d 217 11 [some (.ref 84)] [.int x] h') : G X d 217 4 [some (.ref 84)] [] h := by
  refine g_aload_n d_217_4 rfl rfl ?_
  refine g_ldc2_w (v := 1111) d_217_5 wd_466 ?_
  exact g_callVI (mj := 214) 9 [.long 1111] [] d_217_8 wd_445 mo_214 mc_214 mv_214 rfl rfl rfl (Nat.le_of_ble_eq_true rfl) rfl hdd hC kk

theorem k_217_11 {X : GX} {d : Nat} {h : Hp} {s0 : Int32} (kt : s0 = 0 → G X d 217 32 [none] [] h) (kf : ¬ s0 = 0 → G X d 217 14 [some (.ref 84)] [] h) : G X d 217 11 [some (.ref 84)] [.int s0] h := by
  exact g_if_eq (tgt := 32) d_217_11 (by decide) (fun q => g_mask [false] (kt q)) kf

theorem k_217_14 {X : GX} {d : Nat} {h : Hp} {d' : Nat} {Q' : Hp → Prop} (hdd : d' < d) (hC : CV d' 210 [.ref 84] h Q') (kk : ∀ h', Q' h' → G X d 217 18 [some (.ref 84)] [] h') : G X d 217 14 [some (.ref 84)] [] h := by
  refine g_aload_n d_217_14 rfl rfl ?_
  exact g_callVV (mj := 210) 9 [] [] d_217_15 wd_434 mo_210 mc_210 mv_210 rfl rfl rfl (Nat.le_of_ble_eq_true rfl) rfl hdd hC kk

theorem k_217_18 {X : GX} {d : Nat} {h : Hp} {d' : Nat} {Q' : Hp → Prop} (hdd : d' < d) (hC : CV d' 218 [.ref 84] h Q') (kk : ∀ h', Q' h' → G X d 217 22 [some (.ref 84)] [] h') : G X d 217 18 [some (.ref 84)] [] h := by
  refine g_aload_n d_217_18 rfl rfl ?_
  exact g_callVV (mj := 218) 9 [] [] d_217_19 wd_455 mo_218 mc_218 mv_218 rfl rfl rfl (Nat.le_of_ble_eq_true rfl) rfl hdd hC kk

theorem k_217_22 {X : GX} {d : Nat} {h : Hp} {d' : Nat} {Q' : Hp → Prop} (hdd : d' < d) (hC : CV d' 222 [.ref 84, .int 20038] h Q') (kk : ∀ h', Q' h' → G X d 217 29 [some (.ref 84)] [] h') : G X d 217 22 [some (.ref 84)] [] h := by
  refine g_aload_n d_217_22 rfl rfl ?_
  refine g_sipush (v := 20038) d_217_23 (by decide) ?_
  exact g_callVV (mj := 222) 9 [.int 20038] [] d_217_26 wd_465 mo_222 mc_222 mv_222 rfl rfl rfl (Nat.le_of_ble_eq_true rfl) rfl hdd hC kk

theorem k_217_29 {X : GX} {d : Nat} {h : Hp} (kk : G X d 217 4 [some (.ref 84)] [] h) : G X d 217 29 [some (.ref 84)] [] h := by
  refine g_goto (tgt := 4) d_217_29 (by decide) ?_
  exact kk

theorem k_217_32 {X : GX} {d : Nat} {h : Hp} (hq : RtX X none h) : G X d 217 32 [none] [] h := by
  exact g_retv d_217_32 rfl hq

/-! 218 PlayedTruthModel.one()V -/
theorem k_218_0 {X : GX} {d : Nat} {h : Hp} (kk : G X d 218 2 [some (.ref 84), some (.int 0), none] [] h) : G X d 218 0 [some (.ref 84), none, none] [] h := by
  refine g_iconst (v := 0) d_218_0 (by decide) ?_
  refine g_istore_n d_218_1 rfl (Nat.le_of_ble_eq_true rfl) rfl ?_
  exact kk

theorem k_218_2 {X : GX} {d : Nat} {h : Hp} {v1 : Int32} {d' : Nat} {Q' : Int32 → Hp → Prop} (hdd : d' < d) (hC : CI d' 214 [.ref 84, .long 10631] h Q') (kk : ∀ x h', Q' x h' → G X d 218 9 [some (.ref 84), some (.int v1), none] [.int x] h') : G X d 218 2 [some (.ref 84), some (.int v1), none] [] h := by
  refine g_aload_n d_218_2 rfl rfl ?_
  refine g_ldc2_w (v := 10631) d_218_3 wd_456 ?_
  exact g_callVI (mj := 214) 9 [.long 10631] [] d_218_6 wd_445 mo_214 mc_214 mv_214 rfl rfl rfl (Nat.le_of_ble_eq_true rfl) rfl hdd hC kk

theorem k_218_9 {X : GX} {d : Nat} {h : Hp} {v1 : Int32} {s0 : Int32} (kt : s0 = 0 → G X d 218 22 [some (.ref 84), some (.int v1), none] [] h) (kf : ¬ s0 = 0 → G X d 218 12 [some (.ref 84), some (.int v1), none] [] h) : G X d 218 9 [some (.ref 84), some (.int v1), none] [.int s0] h := by
  exact g_if_eq (tgt := 22) d_218_9 (by decide) kt kf

theorem k_218_12 {X : GX} {d : Nat} {h : Hp} {v1 : Int32} {d' : Nat} {Q' : Hp → Prop} (hdd : d' < d) (hC : CV d' 210 [.ref 84] h Q') (kk : ∀ h', Q' h' → G X d 218 19 [some (.ref 84), some (.int (v1 + 1)), none] [] h') : G X d 218 12 [some (.ref 84), some (.int v1), none] [] h := by
  refine g_iinc (w := 1) d_218_12 rfl (by decide) (Nat.le_of_ble_eq_true rfl) rfl ?_
  refine g_aload_n d_218_15 rfl rfl ?_
  exact g_callVV (mj := 210) 9 [] [] d_218_16 wd_434 mo_210 mc_210 mv_210 rfl rfl rfl (Nat.le_of_ble_eq_true rfl) rfl hdd hC kk

theorem k_218_19 {X : GX} {d : Nat} {h : Hp} {v1 : Int32} (kk : G X d 218 2 [some (.ref 84), some (.int v1), none] [] h) : G X d 218 19 [some (.ref 84), some (.int v1), none] [] h := by
  refine g_goto (tgt := 2) d_218_19 (by decide) ?_
  exact kk

theorem k_218_22 {X : GX} {d : Nat} {h : Hp} {v1 : Int32} {d' : Nat} {Q' : Int32 → Hp → Prop} (hdd : d' < d) (hC : CI d' 219 [.ref 84, .int 40] h Q') (kk : ∀ x h', Q' x h' → G X d 218 28 [some (.ref 84), some (.int v1), none] [.int x] h') : G X d 218 22 [some (.ref 84), some (.int v1), none] [] h := by
  refine g_aload_n d_218_22 rfl rfl ?_
  refine g_bipush (v := 40) d_218_23 (by decide) ?_
  exact g_callVI (mj := 219) 9 [.int 40] [] d_218_25 wd_457 mo_219 mc_219 mv_219 rfl rfl rfl (Nat.le_of_ble_eq_true rfl) rfl hdd hC kk

theorem k_218_28 {X : GX} {d : Nat} {h : Hp} {v1 : Int32} {s0 : Int32} (kt : s0 = 0 → G X d 218 85 [some (.ref 84), some (.int v1), none] [] h) (kf : ¬ s0 = 0 → G X d 218 31 [some (.ref 84), some (.int v1), none] [] h) : G X d 218 28 [some (.ref 84), some (.int v1), none] [.int s0] h := by
  exact g_if_eq (tgt := 85) d_218_28 (by decide) kt kf

theorem k_218_31 {X : GX} {d : Nat} {h : Hp} {v1 : Int32} (kt : 3 ≤ (h 84 13) → G X d 218 44 [some (.ref 84), some (.int v1), none] [.ref 84] h) (kf : ¬ 3 ≤ (h 84 13) → G X d 218 40 [some (.ref 84), some (.int v1), none] [.ref 84] h) : G X d 218 31 [some (.ref 84), some (.int v1), none] [] h := by
  refine g_aload_n d_218_31 rfl rfl ?_
  refine g_aload_n d_218_32 rfl rfl ?_
  refine g_getf (ci := 9) (k := 13) d_218_33 wd_368 (Nat.le_of_ble_eq_true rfl) rfl rfl ?_
  refine g_iconst (v := 3) d_218_36 (by decide) ?_
  exact g_icmp_ge (tgt := 44) d_218_37 (by decide) kt kf

theorem k_218_40 {X : GX} {d : Nat} {h : Hp} {v1 : Int32} {s0 : Nat} {d' : Nat} {Q' : Hp → Prop} (o0 : sh s0 = (1, 9)) (hdd : d' < d) (hC : CV d' 215 [.ref s0, .int 1] h Q') (kk : ∀ h', Q' h' → G X d 218 48 [some (.ref 84), some (.int v1), none] [] h') : G X d 218 40 [some (.ref 84), some (.int v1), none] [.ref s0] h := by
  refine g_iconst (v := 1) d_218_40 (by decide) ?_
  refine g_goto (tgt := 45) d_218_41 (by decide) ?_
  exact g_callVV (mj := 215) 9 [.int 1] [] d_218_45 wd_451 mo_215 mc_215 mv_215 rfl rfl rfl (Nat.le_of_ble_eq_true rfl) o0 hdd hC kk

theorem k_218_44 {X : GX} {d : Nat} {h : Hp} {v1 : Int32} {s0 : Nat} {d' : Nat} {Q' : Hp → Prop} (o0 : sh s0 = (1, 9)) (hdd : d' < d) (hC : CV d' 215 [.ref s0, .int 0] h Q') (kk : ∀ h', Q' h' → G X d 218 48 [some (.ref 84), some (.int v1), none] [] h') : G X d 218 44 [some (.ref 84), some (.int v1), none] [.ref s0] h := by
  refine g_iconst (v := 0) d_218_44 (by decide) ?_
  exact g_callVV (mj := 215) 9 [.int 0] [] d_218_45 wd_451 mo_215 mc_215 mv_215 rfl rfl rfl (Nat.le_of_ble_eq_true rfl) o0 hdd hC kk

theorem k_218_48 {X : GX} {d : Nat} {h : Hp} {v1 : Int32} {d' : Nat} {Q' : Hp → Prop} (hdd : d' < d) (hC : CV d' 216 [.ref 84] (wr h 84 13 ((h 84 13) + 1)) Q') (kk : ∀ h', Q' h' → G X d 218 62 [some (.ref 84), some (.int v1), none] [] h') : G X d 218 48 [some (.ref 84), some (.int v1), none] [] h := by
  refine g_aload_n d_218_48 rfl rfl ?_
  refine g_dup d_218_49 rfl ?_
  refine g_getf (ci := 9) (k := 13) d_218_50 wd_368 (Nat.le_of_ble_eq_true rfl) rfl rfl ?_
  refine g_iconst (v := 1) d_218_53 (by decide) ?_
  refine g_iadd d_218_54 ?_
  refine g_putf (ci := 9) (k := 13) d_218_55 wd_368 (Nat.le_of_ble_eq_true rfl) (Nat.le_of_ble_eq_true rfl) rfl rfl (Or.inl ⟨rfl, rfl⟩) rfl ?_
  refine g_aload_n d_218_58 rfl rfl ?_
  exact g_callVV (mj := 216) 9 [] [] d_218_59 wd_453 mo_216 mc_216 mv_216 rfl rfl rfl (Nat.le_of_ble_eq_true rfl) rfl hdd hC kk

theorem k_218_62 {X : GX} {d : Nat} {h : Hp} {v1 : Int32} {d' : Nat} {Q' : Int32 → Hp → Prop} (hdd : d' < d) (hC : CI d' 219 [.ref 84, .int 41] h Q') (kk : ∀ x h', Q' x h' → G X d 218 69 [some (.ref 84), some (.int v1), none] [.int x, .ref 84] h') : G X d 218 62 [some (.ref 84), some (.int v1), none] [] h := by
  refine g_aload_n d_218_62 rfl rfl ?_
  refine g_aload_n d_218_63 rfl rfl ?_
  refine g_bipush (v := 41) d_218_64 (by decide) ?_
  exact g_callVI (mj := 219) 9 [.int 41] [.ref 84] d_218_66 wd_457 mo_219 mc_219 mv_219 rfl rfl rfl (Nat.le_of_ble_eq_true rfl) rfl hdd hC kk

theorem k_218_69 {X : GX} {d : Nat} {h : Hp} {v1 : Int32} {s0 : Int32} {s1 : Nat} {d' : Nat} {Q' : Hp → Prop} (o0 : sh s1 = (1, 9)) (hdd : d' < d) (hC : CV d' 215 [.ref s1, .int s0] h Q') (kk : ∀ h', Q' h' → G X d 218 72 [some (.ref 84), some (.int v1), none] [] h') : G X d 218 69 [some (.ref 84), some (.int v1), none] [.int s0, .ref s1] h := by
  exact g_callVV (mj := 215) 9 [.int s0] [] d_218_69 wd_451 mo_215 mc_215 mv_215 rfl rfl rfl (Nat.le_of_ble_eq_true rfl) o0 hdd hC kk

theorem k_218_72 {X : GX} {d : Nat} {h : Hp} {v1 : Int32} (kk : G X d 218 146 [some (.ref 84), some (.int v1), some (.int 0)] [] (wr h 84 13 ((h 84 13) - 1))) : G X d 218 72 [some (.ref 84), some (.int v1), none] [] h := by
  refine g_aload_n d_218_72 rfl rfl ?_
  refine g_dup d_218_73 rfl ?_
  refine g_getf (ci := 9) (k := 13) d_218_74 wd_368 (Nat.le_of_ble_eq_true rfl) rfl rfl ?_
  refine g_iconst (v := 1) d_218_77 (by decide) ?_
  refine g_isub d_218_78 ?_
  refine g_putf (ci := 9) (k := 13) d_218_79 wd_368 (Nat.le_of_ble_eq_true rfl) (Nat.le_of_ble_eq_true rfl) rfl rfl (Or.inl ⟨rfl, rfl⟩) rfl ?_
  refine g_goto (tgt := 144) d_218_82 (by decide) ?_
  refine g_iconst (v := 0) d_218_144 (by decide) ?_
  refine g_istore_n d_218_145 rfl (Nat.le_of_ble_eq_true rfl) rfl ?_
  exact kk

theorem k_218_85 {X : GX} {d : Nat} {h : Hp} {v1 : Int32} {d' : Nat} {Q' : Hp → Prop} (hdd : d' < d) (hC : CV d' 220 [.ref 84] h Q') (kk : ∀ h', Q' h' → G X d 218 89 [some (.ref 84), some (.int v1), none] [] h') : G X d 218 85 [some (.ref 84), some (.int v1), none] [] h := by
  refine g_aload_n d_218_85 rfl rfl ?_
  exact g_callVV (mj := 220) 9 [] [] d_218_86 wd_458 mo_220 mc_220 mv_220 rfl rfl rfl (Nat.le_of_ble_eq_true rfl) rfl hdd hC kk

theorem k_218_89 {X : GX} {d : Nat} {h : Hp} {v1 : Int32} {d' : Nat} {Q' : Int32 → Hp → Prop} (hdd : d' < d) (hC : CI d' 219 [.ref 84, .int 60] h Q') (kk : ∀ x h', Q' x h' → G X d 218 102 [some (.ref 84), some (.int v1), some (.int (Int64.toInt32 (rdL (h 84))))] [.int x, .ref 84] h') : G X d 218 89 [some (.ref 84), some (.int v1), none] [] h := by
  refine g_aload_n d_218_89 rfl rfl ?_
  refine g_getf (ci := 9) (k := 11) d_218_90 wd_366 (Nat.le_of_ble_eq_true rfl) rfl rfl ?_
  refine g_l2i d_218_93 ?_
  refine g_istore_n d_218_94 rfl (Nat.le_of_ble_eq_true rfl) rfl ?_
  refine g_aload_n d_218_95 rfl rfl ?_
  refine g_aload_n d_218_96 rfl rfl ?_
  refine g_bipush (v := 60) d_218_97 (by decide) ?_
  exact g_callVI (mj := 219) 9 [.int 60] [.ref 84] d_218_99 wd_457 mo_219 mc_219 mv_219 rfl rfl rfl (Nat.le_of_ble_eq_true rfl) rfl hdd hC kk

theorem k_218_102 {X : GX} {d : Nat} {h : Hp} {v1 : Int32} {v2 : Int32} {s0 : Int32} {s1 : Nat} (kt : ¬ s0 = 0 → G X d 218 123 [some (.ref 84), some (.int v1), some (.int v2)] [.ref s1] h) (kf : s0 = 0 → G X d 218 105 [some (.ref 84), some (.int v1), some (.int v2)] [.ref s1] h) : G X d 218 102 [some (.ref 84), some (.int v1), some (.int v2)] [.int s0, .ref s1] h := by
  exact g_if_ne (tgt := 123) d_218_102 (by decide) kt kf

theorem k_218_105 {X : GX} {d : Nat} {h : Hp} {v1 : Int32} {v2 : Int32} {s0 : Nat} {d' : Nat} {Q' : Int32 → Hp → Prop} (hdd : d' < d) (hC : CI d' 219 [.ref 84, .int 61] h Q') (kk : ∀ x h', Q' x h' → G X d 218 111 [some (.ref 84), some (.int v1), some (.int v2)] [.int x, .ref s0] h') : G X d 218 105 [some (.ref 84), some (.int v1), some (.int v2)] [.ref s0] h := by
  refine g_aload_n d_218_105 rfl rfl ?_
  refine g_bipush (v := 61) d_218_106 (by decide) ?_
  exact g_callVI (mj := 219) 9 [.int 61] [.ref s0] d_218_108 wd_457 mo_219 mc_219 mv_219 rfl rfl rfl (Nat.le_of_ble_eq_true rfl) rfl hdd hC kk

theorem k_218_111 {X : GX} {d : Nat} {h : Hp} {v1 : Int32} {v2 : Int32} {s0 : Int32} {s1 : Nat} (kt : ¬ s0 = 0 → G X d 218 123 [some (.ref 84), some (.int v1), some (.int v2)] [.ref s1] h) (kf : s0 = 0 → G X d 218 114 [some (.ref 84), some (.int v1), some (.int v2)] [.ref s1] h) : G X d 218 111 [some (.ref 84), some (.int v1), some (.int v2)] [.int s0, .ref s1] h := by
  exact g_if_ne (tgt := 123) d_218_111 (by decide) kt kf

theorem k_218_114 {X : GX} {d : Nat} {h : Hp} {v1 : Int32} {v2 : Int32} {s0 : Nat} {d' : Nat} {Q' : Int32 → Hp → Prop} (hdd : d' < d) (hC : CI d' 219 [.ref 84, .int 62] h Q') (kk : ∀ x h', Q' x h' → G X d 218 120 [some (.ref 84), some (.int v1), some (.int v2)] [.int x, .ref s0] h') : G X d 218 114 [some (.ref 84), some (.int v1), some (.int v2)] [.ref s0] h := by
  refine g_aload_n d_218_114 rfl rfl ?_
  refine g_bipush (v := 62) d_218_115 (by decide) ?_
  exact g_callVI (mj := 219) 9 [.int 62] [.ref s0] d_218_117 wd_457 mo_219 mc_219 mv_219 rfl rfl rfl (Nat.le_of_ble_eq_true rfl) rfl hdd hC kk

theorem k_218_120 {X : GX} {d : Nat} {h : Hp} {v1 : Int32} {v2 : Int32} {s0 : Int32} {s1 : Nat} (kt : s0 = 0 → G X d 218 127 [some (.ref 84), some (.int v1), some (.int v2)] [.ref s1] h) (kf : ¬ s0 = 0 → G X d 218 123 [some (.ref 84), some (.int v1), some (.int v2)] [.ref s1] h) : G X d 218 120 [some (.ref 84), some (.int v1), some (.int v2)] [.int s0, .ref s1] h := by
  exact g_if_eq (tgt := 127) d_218_120 (by decide) kt kf

theorem k_218_123 {X : GX} {d : Nat} {h : Hp} {v1 : Int32} {v2 : Int32} {s0 : Nat} {d' : Nat} {Q' : Hp → Prop} (o0 : sh s0 = (1, 9)) (hdd : d' < d) (hC : CV d' 215 [.ref s0, .int 1] h Q') (kk : ∀ h', Q' h' → G X d 218 131 [some (.ref 84), some (.int v1), some (.int v2)] [] h') : G X d 218 123 [some (.ref 84), some (.int v1), some (.int v2)] [.ref s0] h := by
  refine g_iconst (v := 1) d_218_123 (by decide) ?_
  refine g_goto (tgt := 128) d_218_124 (by decide) ?_
  exact g_callVV (mj := 215) 9 [.int 1] [] d_218_128 wd_451 mo_215 mc_215 mv_215 rfl rfl rfl (Nat.le_of_ble_eq_true rfl) o0 hdd hC kk

theorem k_218_127 {X : GX} {d : Nat} {h : Hp} {v1 : Int32} {v2 : Int32} {s0 : Nat} {d' : Nat} {Q' : Hp → Prop} (o0 : sh s0 = (1, 9)) (hdd : d' < d) (hC : CV d' 215 [.ref s0, .int 0] h Q') (kk : ∀ h', Q' h' → G X d 218 131 [some (.ref 84), some (.int v1), some (.int v2)] [] h') : G X d 218 127 [some (.ref 84), some (.int v1), some (.int v2)] [.ref s0] h := by
  refine g_iconst (v := 0) d_218_127 (by decide) ?_
  exact g_callVV (mj := 215) 9 [.int 0] [] d_218_128 wd_451 mo_215 mc_215 mv_215 rfl rfl rfl (Nat.le_of_ble_eq_true rfl) o0 hdd hC kk

theorem k_218_131 {X : GX} {d : Nat} {h : Hp} {v1 : Int32} {v2 : Int32} {d' : Nat} {Q' : Hp → Prop} (hdd : d' < d) (hC : CV d' 220 [.ref 84] h Q') (kk : ∀ h', Q' h' → G X d 218 135 [some (.ref 84), some (.int v1), some (.int v2)] [] h') : G X d 218 131 [some (.ref 84), some (.int v1), some (.int v2)] [] h := by
  refine g_aload_n d_218_131 rfl rfl ?_
  exact g_callVV (mj := 220) 9 [] [] d_218_132 wd_458 mo_220 mc_220 mv_220 rfl rfl rfl (Nat.le_of_ble_eq_true rfl) rfl hdd hC kk

theorem k_218_135 {X : GX} {d : Nat} {h : Hp} {v1 : Int32} {v2 : Int32} {d' : Nat} {Q' : Hp → Prop} (hdd : d' < d) (hC : CV d' 222 [.ref 84, .int (20000 + v2)] h Q') (kk : ∀ h', Q' h' → G X d 218 144 [some (.ref 84), some (.int v1), none] [] h') : G X d 218 135 [some (.ref 84), some (.int v1), some (.int v2)] [] h := by
  refine g_aload_n d_218_135 rfl rfl ?_
  refine g_sipush (v := 20000) d_218_136 (by decide) ?_
  refine g_iload_n d_218_139 rfl rfl ?_
  refine g_iadd d_218_140 ?_
  exact g_callVV (mj := 222) 9 [.int (20000 + v2)] [] d_218_141 wd_465 mo_222 mc_222 mv_222 rfl rfl rfl (Nat.le_of_ble_eq_true rfl) rfl hdd hC (fun h' q => g_mask [true, true, false] (kk h' q))

theorem k_218_144 {X : GX} {d : Nat} {h : Hp} {v1 : Int32} (kk : G X d 218 146 [some (.ref 84), some (.int v1), some (.int 0)] [] h) : G X d 218 144 [some (.ref 84), some (.int v1), none] [] h := by
  refine g_iconst (v := 0) d_218_144 (by decide) ?_
  refine g_istore_n d_218_145 rfl (Nat.le_of_ble_eq_true rfl) rfl ?_
  exact kk

theorem k_218_146 {X : GX} {d : Nat} {h : Hp} {v1 : Int32} {v2 : Int32} (kt : v1 ≤ v2 → G X d 218 164 [none, none, none] [] h) (kf : ¬ v1 ≤ v2 → G X d 218 151 [some (.ref 84), some (.int v1), some (.int v2)] [] h) : G X d 218 146 [some (.ref 84), some (.int v1), some (.int v2)] [] h := by
  refine g_iload_n d_218_146 rfl rfl ?_
  refine g_iload_n d_218_147 rfl rfl ?_
  exact g_icmp_ge (tgt := 164) d_218_148 (by decide) (fun q => g_mask [false, false, false] (kt q)) kf

theorem k_218_151 {X : GX} {d : Nat} {h : Hp} {v1 : Int32} {v2 : Int32} {d' : Nat} {Q' : Hp → Prop} (hdd : d' < d) (hC : CV d' 222 [.ref 84, .int 20033] h Q') (kk : ∀ h', Q' h' → G X d 218 158 [some (.ref 84), some (.int v1), some (.int v2)] [] h') : G X d 218 151 [some (.ref 84), some (.int v1), some (.int v2)] [] h := by
  refine g_aload_n d_218_151 rfl rfl ?_
  refine g_sipush (v := 20033) d_218_152 (by decide) ?_
  exact g_callVV (mj := 222) 9 [.int 20033] [] d_218_155 wd_465 mo_222 mc_222 mv_222 rfl rfl rfl (Nat.le_of_ble_eq_true rfl) rfl hdd hC kk

theorem k_218_158 {X : GX} {d : Nat} {h : Hp} {v1 : Int32} {v2 : Int32} (kk : G X d 218 146 [some (.ref 84), some (.int v1), some (.int (v2 + 1))] [] h) : G X d 218 158 [some (.ref 84), some (.int v1), some (.int v2)] [] h := by
  refine g_iinc (w := 1) d_218_158 rfl (by decide) (Nat.le_of_ble_eq_true rfl) rfl ?_
  refine g_goto (tgt := 146) d_218_161 (by decide) ?_
  exact kk

theorem k_218_164 {X : GX} {d : Nat} {h : Hp} (hq : RtX X none h) : G X d 218 164 [none, none, none] [] h := by
  exact g_retv d_218_164 rfl hq

/-! 219 PlayedTruthModel.isByte(C)Z -/
theorem k_219_0 {X : GX} {d : Nat} {h : Hp} {v1 : Int32} (kt : ¬ (h 84 10) = 3 → G X d 219 29 [none, none] [] h) (kf : (h 84 10) = 3 → G X d 219 8 [some (.ref 84), some (.int v1)] [] h) : G X d 219 0 [some (.ref 84), some (.int v1)] [] h := by
  refine g_aload_n d_219_0 rfl rfl ?_
  refine g_getf (ci := 9) (k := 10) d_219_1 wd_365 (Nat.le_of_ble_eq_true rfl) rfl rfl ?_
  refine g_iconst (v := 3) d_219_4 (by decide) ?_
  exact g_icmp_ne (tgt := 29) d_219_5 (by decide) (fun q => g_mask [false, false] (kt q)) kf

theorem k_219_8 {X : GX} {d : Nat} {h : Hp} {v1 : Int32} (kt : ¬ (lg_cmp (rdL (h 84)) (Int32.toInt64 v1)) = 0 → G X d 219 29 [none, none] [] h) (kf : (lg_cmp (rdL (h 84)) (Int32.toInt64 v1)) = 0 → G X d 219 18 [some (.ref 84), none] [] h) : G X d 219 8 [some (.ref 84), some (.int v1)] [] h := by
  refine g_aload_n d_219_8 rfl rfl ?_
  refine g_getf (ci := 9) (k := 11) d_219_9 wd_366 (Nat.le_of_ble_eq_true rfl) rfl rfl ?_
  refine g_iload_n d_219_12 rfl rfl ?_
  refine g_i2l d_219_13 ?_
  refine g_lcmp d_219_14 ?_
  exact g_if_ne (tgt := 29) d_219_15 (by decide) (fun q => g_mask [false, false] (kt q)) (fun q => g_mask [true, false] (kf q))

theorem k_219_18 {X : GX} {d : Nat} {h : Hp} (kt : ¬ (h 84 12) = 0 → G X d 219 29 [none, none] [] h) (kf : (h 84 12) = 0 → G X d 219 25 [none, none] [] h) : G X d 219 18 [some (.ref 84), none] [] h := by
  refine g_aload_n d_219_18 rfl rfl ?_
  refine g_getf (ci := 9) (k := 12) d_219_19 wd_367 (Nat.le_of_ble_eq_true rfl) rfl rfl ?_
  exact g_if_ne (tgt := 29) d_219_22 (by decide) (fun q => g_mask [false, false] (kt q)) (fun q => g_mask [false, false] (kf q))

theorem k_219_25 {X : GX} {d : Nat} {h : Hp} (hq : RtX X (some (.int 1)) h) : G X d 219 25 [none, none] [] h := by
  refine g_iconst (v := 1) d_219_25 (by decide) ?_
  refine g_goto (tgt := 30) d_219_26 (by decide) ?_
  exact g_retz d_219_30 rfl z01_1 hq

theorem k_219_29 {X : GX} {d : Nat} {h : Hp} (hq : RtX X (some (.int 0)) h) : G X d 219 29 [none, none] [] h := by
  refine g_iconst (v := 0) d_219_29 (by decide) ?_
  exact g_retz d_219_30 rfl z01_0 hq

/-! 220 PlayedTruthModel.valueHere()V -/
theorem k_220_0 {X : GX} {d : Nat} {h : Hp} {d' : Nat} {Q' : Int32 → Hp → Prop} (hdd : d' < d) (hC : CI d' 221 [.ref 84] h Q') (kk : ∀ x h', Q' x h' → G X d 220 4 [some (.ref 84), none, none] [.int x] h') : G X d 220 0 [some (.ref 84), none, none] [] h := by
  refine g_aload_n d_220_0 rfl rfl ?_
  exact g_callVI (mj := 221) 9 [] [] d_220_1 wd_459 mo_221 mc_221 mv_221 rfl rfl rfl (Nat.le_of_ble_eq_true rfl) rfl hdd hC kk

theorem k_220_4 {X : GX} {d : Nat} {h : Hp} {s0 : Int32} (kt : ¬ (h 84 10) = 2 → G X d 220 28 [some (.ref 84), some (.int s0), none] [] h) (kf : (h 84 10) = 2 → G X d 220 13 [some (.ref 84), some (.int s0), none] [] h) : G X d 220 4 [some (.ref 84), none, none] [.int s0] h := by
  refine g_istore_n d_220_4 rfl (Nat.le_of_ble_eq_true rfl) rfl ?_
  refine g_aload_n d_220_5 rfl rfl ?_
  refine g_getf (ci := 9) (k := 10) d_220_6 wd_365 (Nat.le_of_ble_eq_true rfl) rfl rfl ?_
  refine g_iconst (v := 2) d_220_9 (by decide) ?_
  exact g_icmp_ne (tgt := 28) d_220_10 (by decide) kt kf

theorem k_220_13 {X : GX} {d : Nat} {h : Hp} {v1 : Int32} (kt : 0 ≤ (lg_cmp (rdL (h 84)) 100000) → G X d 220 28 [some (.ref 84), some (.int v1), none] [] h) (kf : ¬ 0 ≤ (lg_cmp (rdL (h 84)) 100000) → G X d 220 24 [some (.ref 84), some (.int v1), none] [] h) : G X d 220 13 [some (.ref 84), some (.int v1), none] [] h := by
  refine g_aload_n d_220_13 rfl rfl ?_
  refine g_getf (ci := 9) (k := 11) d_220_14 wd_366 (Nat.le_of_ble_eq_true rfl) rfl rfl ?_
  refine g_ldc2_w (v := 100000) d_220_17 wd_441 ?_
  refine g_lcmp d_220_20 ?_
  exact g_if_ge (tgt := 28) d_220_21 (by decide) kt kf

theorem k_220_24 {X : GX} {d : Nat} {h : Hp} {v1 : Int32} (kt : v1 < 0 → G X d 220 43 [some (.ref 84), some (.int v1), some (.int 1)] [.ref 84] h) (kf : ¬ v1 < 0 → G X d 220 35 [some (.ref 84), some (.int v1), some (.int 1)] [.ref 84] h) : G X d 220 24 [some (.ref 84), some (.int v1), none] [] h := by
  refine g_iconst (v := 1) d_220_24 (by decide) ?_
  refine g_goto (tgt := 29) d_220_25 (by decide) ?_
  refine g_istore_n d_220_29 rfl (Nat.le_of_ble_eq_true rfl) rfl ?_
  refine g_aload_n d_220_30 rfl rfl ?_
  refine g_iload_n d_220_31 rfl rfl ?_
  exact g_if_lt (tgt := 43) d_220_32 (by decide) kt kf

theorem k_220_28 {X : GX} {d : Nat} {h : Hp} {v1 : Int32} (kt : v1 < 0 → G X d 220 43 [some (.ref 84), some (.int v1), some (.int 0)] [.ref 84] h) (kf : ¬ v1 < 0 → G X d 220 35 [some (.ref 84), some (.int v1), some (.int 0)] [.ref 84] h) : G X d 220 28 [some (.ref 84), some (.int v1), none] [] h := by
  refine g_iconst (v := 0) d_220_28 (by decide) ?_
  refine g_istore_n d_220_29 rfl (Nat.le_of_ble_eq_true rfl) rfl ?_
  refine g_aload_n d_220_30 rfl rfl ?_
  refine g_iload_n d_220_31 rfl rfl ?_
  exact g_if_lt (tgt := 43) d_220_32 (by decide) kt kf

theorem k_220_35 {X : GX} {d : Nat} {h : Hp} {v1 : Int32} {v2 : Int32} {s0 : Nat} {d' : Nat} {Q' : Hp → Prop} (o0 : sh s0 = (1, 9)) (hdd : d' < d) (hC : CV d' 222 [.ref s0, .int (10000 + v1)] h Q') (kk : ∀ h', Q' h' → G X d 220 59 [some (.ref 84), some (.int v1), some (.int v2)] [] h') : G X d 220 35 [some (.ref 84), some (.int v1), some (.int v2)] [.ref s0] h := by
  refine g_sipush (v := 10000) d_220_35 (by decide) ?_
  refine g_iload_n d_220_38 rfl rfl ?_
  refine g_iadd d_220_39 ?_
  refine g_goto (tgt := 56) d_220_40 (by decide) ?_
  exact g_callVV (mj := 222) 9 [.int (10000 + v1)] [] d_220_56 wd_465 mo_222 mc_222 mv_222 rfl rfl rfl (Nat.le_of_ble_eq_true rfl) o0 hdd hC kk

theorem k_220_43 {X : GX} {d : Nat} {h : Hp} {v1 : Int32} {v2 : Int32} {s0 : Nat} (kt : v2 = 0 → G X d 220 55 [some (.ref 84), some (.int v1), some (.int v2)] [.ref s0] h) (kf : ¬ v2 = 0 → G X d 220 47 [some (.ref 84), some (.int v1), some (.int v2)] [.ref s0] h) : G X d 220 43 [some (.ref 84), some (.int v1), some (.int v2)] [.ref s0] h := by
  refine g_iload_n d_220_43 rfl rfl ?_
  exact g_if_eq (tgt := 55) d_220_44 (by decide) kt kf

theorem k_220_47 {X : GX} {d : Nat} {h : Hp} {v1 : Int32} {v2 : Int32} {s0 : Nat} {d' : Nat} {Q' : Hp → Prop} (o0 : sh s0 = (1, 9)) (hdd : d' < d) (hC : CV d' 222 [.ref s0, .int (Int64.toInt32 (rdL (h 84)))] h Q') (kk : ∀ h', Q' h' → G X d 220 59 [some (.ref 84), some (.int v1), some (.int v2)] [] h') : G X d 220 47 [some (.ref 84), some (.int v1), some (.int v2)] [.ref s0] h := by
  refine g_aload_n d_220_47 rfl rfl ?_
  refine g_getf (ci := 9) (k := 11) d_220_48 wd_366 (Nat.le_of_ble_eq_true rfl) rfl rfl ?_
  refine g_l2i d_220_51 ?_
  refine g_goto (tgt := 56) d_220_52 (by decide) ?_
  exact g_callVV (mj := 222) 9 [.int (Int64.toInt32 (rdL (h 84)))] [] d_220_56 wd_465 mo_222 mc_222 mv_222 rfl rfl rfl (Nat.le_of_ble_eq_true rfl) o0 hdd hC kk

theorem k_220_55 {X : GX} {d : Nat} {h : Hp} {v1 : Int32} {v2 : Int32} {s0 : Nat} {d' : Nat} {Q' : Hp → Prop} (o0 : sh s0 = (1, 9)) (hdd : d' < d) (hC : CV d' 222 [.ref s0, .int 0] h Q') (kk : ∀ h', Q' h' → G X d 220 59 [some (.ref 84), some (.int v1), some (.int v2)] [] h') : G X d 220 55 [some (.ref 84), some (.int v1), some (.int v2)] [.ref s0] h := by
  refine g_iconst (v := 0) d_220_55 (by decide) ?_
  exact g_callVV (mj := 222) 9 [.int 0] [] d_220_56 wd_465 mo_222 mc_222 mv_222 rfl rfl rfl (Nat.le_of_ble_eq_true rfl) o0 hdd hC kk

theorem k_220_59 {X : GX} {d : Nat} {h : Hp} {v1 : Int32} {v2 : Int32} (kt : 0 ≤ v1 → G X d 220 68 [none, none, none] [.ref 84] h) (kf : ¬ 0 ≤ v1 → G X d 220 64 [none, none, some (.int v2)] [.ref 84] h) : G X d 220 59 [some (.ref 84), some (.int v1), some (.int v2)] [] h := by
  refine g_aload_n d_220_59 rfl rfl ?_
  refine g_iload_n d_220_60 rfl rfl ?_
  exact g_if_ge (tgt := 68) d_220_61 (by decide) (fun q => g_mask [false, false, false] (kt q)) (fun q => g_mask [false, false, true] (kf q))

theorem k_220_64 {X : GX} {d : Nat} {h : Hp} {v2 : Int32} {s0 : Nat} (kt : v2 = 0 → G X d 220 72 [none, none, none] [.ref s0] h) (kf : ¬ v2 = 0 → G X d 220 68 [none, none, none] [.ref s0] h) : G X d 220 64 [none, none, some (.int v2)] [.ref s0] h := by
  refine g_iload_n d_220_64 rfl rfl ?_
  exact g_if_eq (tgt := 72) d_220_65 (by decide) (fun q => g_mask [false, false, false] (kt q)) (fun q => g_mask [false, false, false] (kf q))

theorem k_220_68 {X : GX} {d : Nat} {h : Hp} {s0 : Nat} {d' : Nat} {Q' : Hp → Prop} (o0 : sh s0 = (1, 9)) (hdd : d' < d) (hC : CV d' 215 [.ref s0, .int 1] h Q') (kk : ∀ h', Q' h' → G X d 220 76 [none, none, none] [] h') : G X d 220 68 [none, none, none] [.ref s0] h := by
  refine g_iconst (v := 1) d_220_68 (by decide) ?_
  refine g_goto (tgt := 73) d_220_69 (by decide) ?_
  exact g_callVV (mj := 215) 9 [.int 1] [] d_220_73 wd_451 mo_215 mc_215 mv_215 rfl rfl rfl (Nat.le_of_ble_eq_true rfl) o0 hdd hC kk

theorem k_220_72 {X : GX} {d : Nat} {h : Hp} {s0 : Nat} {d' : Nat} {Q' : Hp → Prop} (o0 : sh s0 = (1, 9)) (hdd : d' < d) (hC : CV d' 215 [.ref s0, .int 0] h Q') (kk : ∀ h', Q' h' → G X d 220 76 [none, none, none] [] h') : G X d 220 72 [none, none, none] [.ref s0] h := by
  refine g_iconst (v := 0) d_220_72 (by decide) ?_
  exact g_callVV (mj := 215) 9 [.int 0] [] d_220_73 wd_451 mo_215 mc_215 mv_215 rfl rfl rfl (Nat.le_of_ble_eq_true rfl) o0 hdd hC kk

theorem k_220_76 {X : GX} {d : Nat} {h : Hp} (hq : RtX X none h) : G X d 220 76 [none, none, none] [] h := by
  exact g_retv d_220_76 rfl hq

/-! 221 PlayedTruthModel.factHere()I -/
theorem k_221_0 {X : GX} {d : Nat} {h : Hp} {d' : Nat} {Q' : Int32 → Hp → Prop} (hdd : d' < d) (hC : CI d' 214 [.ref 84, .long 7622660] h Q') (kk : ∀ x h', Q' x h' → G X d 221 7 [some (.ref 84)] [.int x] h') : G X d 221 0 [some (.ref 84)] [] h := by
  refine g_aload_n d_221_0 rfl rfl ?_
  refine g_ldc2_w (v := 7622660) d_221_1 wd_460 ?_
  exact g_callVI (mj := 214) 9 [.long 7622660] [] d_221_4 wd_445 mo_214 mc_214 mv_214 rfl rfl rfl (Nat.le_of_ble_eq_true rfl) rfl hdd hC kk

theorem k_221_7 {X : GX} {d : Nat} {h : Hp} {s0 : Int32} (kt : s0 = 0 → G X d 221 14 [some (.ref 84)] [] h) (kf : ¬ s0 = 0 → G X d 221 10 [none] [] h) : G X d 221 7 [some (.ref 84)] [.int s0] h := by
  exact g_if_eq (tgt := 14) d_221_7 (by decide) kt (fun q => g_mask [false] (kf q))

theorem k_221_10 {X : GX} {d : Nat} {h : Hp} (hq : RtX X (some (.int 0)) h) : G X d 221 10 [none] [] h := by
  refine g_iconst (v := 0) d_221_10 (by decide) ?_
  refine g_goto (tgt := 71) d_221_11 (by decide) ?_
  exact g_reti d_221_71 rfl hq

theorem k_221_14 {X : GX} {d : Nat} {h : Hp} {d' : Nat} {Q' : Int32 → Hp → Prop} (hdd : d' < d) (hC : CI d' 214 [.ref 84, .long 10998971] h Q') (kk : ∀ x h', Q' x h' → G X d 221 21 [some (.ref 84)] [.int x] h') : G X d 221 14 [some (.ref 84)] [] h := by
  refine g_aload_n d_221_14 rfl rfl ?_
  refine g_ldc2_w (v := 10998971) d_221_15 wd_461 ?_
  exact g_callVI (mj := 214) 9 [.long 10998971] [] d_221_18 wd_445 mo_214 mc_214 mv_214 rfl rfl rfl (Nat.le_of_ble_eq_true rfl) rfl hdd hC kk

theorem k_221_21 {X : GX} {d : Nat} {h : Hp} {s0 : Int32} (kt : s0 = 0 → G X d 221 28 [some (.ref 84)] [] h) (kf : ¬ s0 = 0 → G X d 221 24 [none] [] h) : G X d 221 21 [some (.ref 84)] [.int s0] h := by
  exact g_if_eq (tgt := 28) d_221_21 (by decide) kt (fun q => g_mask [false] (kf q))

theorem k_221_24 {X : GX} {d : Nat} {h : Hp} (hq : RtX X (some (.int 1)) h) : G X d 221 24 [none] [] h := by
  refine g_iconst (v := 1) d_221_24 (by decide) ?_
  refine g_goto (tgt := 71) d_221_25 (by decide) ?_
  exact g_reti d_221_71 rfl hq

theorem k_221_28 {X : GX} {d : Nat} {h : Hp} {d' : Nat} {Q' : Int32 → Hp → Prop} (hdd : d' < d) (hC : CI d' 214 [.ref 84, .long 239262010] h Q') (kk : ∀ x h', Q' x h' → G X d 221 35 [some (.ref 84)] [.int x] h') : G X d 221 28 [some (.ref 84)] [] h := by
  refine g_aload_n d_221_28 rfl rfl ?_
  refine g_ldc2_w (v := 239262010) d_221_29 wd_462 ?_
  exact g_callVI (mj := 214) 9 [.long 239262010] [] d_221_32 wd_445 mo_214 mc_214 mv_214 rfl rfl rfl (Nat.le_of_ble_eq_true rfl) rfl hdd hC kk

theorem k_221_35 {X : GX} {d : Nat} {h : Hp} {s0 : Int32} (kt : s0 = 0 → G X d 221 42 [some (.ref 84)] [] h) (kf : ¬ s0 = 0 → G X d 221 38 [none] [] h) : G X d 221 35 [some (.ref 84)] [.int s0] h := by
  exact g_if_eq (tgt := 42) d_221_35 (by decide) kt (fun q => g_mask [false] (kf q))

theorem k_221_38 {X : GX} {d : Nat} {h : Hp} (hq : RtX X (some (.int 2)) h) : G X d 221 38 [none] [] h := by
  refine g_iconst (v := 2) d_221_38 (by decide) ?_
  refine g_goto (tgt := 71) d_221_39 (by decide) ?_
  exact g_reti d_221_71 rfl hq

theorem k_221_42 {X : GX} {d : Nat} {h : Hp} {d' : Nat} {Q' : Int32 → Hp → Prop} (hdd : d' < d) (hC : CI d' 214 [.ref 84, .long 355278] h Q') (kk : ∀ x h', Q' x h' → G X d 221 49 [some (.ref 84)] [.int x] h') : G X d 221 42 [some (.ref 84)] [] h := by
  refine g_aload_n d_221_42 rfl rfl ?_
  refine g_ldc2_w (v := 355278) d_221_43 wd_463 ?_
  exact g_callVI (mj := 214) 9 [.long 355278] [] d_221_46 wd_445 mo_214 mc_214 mv_214 rfl rfl rfl (Nat.le_of_ble_eq_true rfl) rfl hdd hC kk

theorem k_221_49 {X : GX} {d : Nat} {h : Hp} {s0 : Int32} (kt : s0 = 0 → G X d 221 56 [some (.ref 84)] [] h) (kf : ¬ s0 = 0 → G X d 221 52 [none] [] h) : G X d 221 49 [some (.ref 84)] [.int s0] h := by
  exact g_if_eq (tgt := 56) d_221_49 (by decide) kt (fun q => g_mask [false] (kf q))

theorem k_221_52 {X : GX} {d : Nat} {h : Hp} (hq : RtX X (some (.int 3)) h) : G X d 221 52 [none] [] h := by
  refine g_iconst (v := 3) d_221_52 (by decide) ?_
  refine g_goto (tgt := 71) d_221_53 (by decide) ?_
  exact g_reti d_221_71 rfl hq

theorem k_221_56 {X : GX} {d : Nat} {h : Hp} {d' : Nat} {Q' : Int32 → Hp → Prop} (hdd : d' < d) (hC : CI d' 214 [.ref 84, .long 212302449] h Q') (kk : ∀ x h', Q' x h' → G X d 221 63 [none] [.int x] h') : G X d 221 56 [some (.ref 84)] [] h := by
  refine g_aload_n d_221_56 rfl rfl ?_
  refine g_ldc2_w (v := 212302449) d_221_57 wd_464 ?_
  exact g_callVI (mj := 214) 9 [.long 212302449] [] d_221_60 wd_445 mo_214 mc_214 mv_214 rfl rfl rfl (Nat.le_of_ble_eq_true rfl) rfl hdd hC (fun x h' q => g_mask [false] (kk x h' q))

theorem k_221_63 {X : GX} {d : Nat} {h : Hp} {s0 : Int32} (kt : s0 = 0 → G X d 221 70 [none] [] h) (kf : ¬ s0 = 0 → G X d 221 66 [none] [] h) : G X d 221 63 [none] [.int s0] h := by
  exact g_if_eq (tgt := 70) d_221_63 (by decide) kt kf

theorem k_221_66 {X : GX} {d : Nat} {h : Hp} (hq : RtX X (some (.int 4)) h) : G X d 221 66 [none] [] h := by
  refine g_iconst (v := 4) d_221_66 (by decide) ?_
  refine g_goto (tgt := 71) d_221_67 (by decide) ?_
  exact g_reti d_221_71 rfl hq

theorem k_221_70 {X : GX} {d : Nat} {h : Hp} (hq : RtX X (some (.int ((-1)))) h) : G X d 221 70 [none] [] h := by
  refine g_iconst (v := (-1)) d_221_70 (by decide) ?_
  exact g_reti d_221_71 rfl hq

/-! 222 PlayedTruthModel.lays(I)V -/
theorem k_222_0 {X : GX} {d : Nat} {h : Hp} {v1 : Int32} (kt : ¬ (h 84 12) = 0 → G X d 222 27 [none, none] [] h) (kf : (h 84 12) = 0 → G X d 222 7 [some (.ref 84), some (.int v1)] [] h) : G X d 222 0 [some (.ref 84), some (.int v1)] [] h := by
  refine g_aload_n d_222_0 rfl rfl ?_
  refine g_getf (ci := 9) (k := 12) d_222_1 wd_367 (Nat.le_of_ble_eq_true rfl) rfl rfl ?_
  exact g_if_ne (tgt := 27) d_222_4 (by decide) (fun q => g_mask [false, false] (kt q)) kf

theorem k_222_7 {X : GX} {d : Nat} {h : Hp} {v1 : Int32} (b0 : IA 90 (h 84 15)) (hq : RtX X none (wr (wr h 90 (Int32.toNatClampNeg (h 84 15)) v1) 84 15 (((wr h 90 (Int32.toNatClampNeg (h 84 15)) v1) 84 15) + 1))) : G X d 222 7 [some (.ref 84), some (.int v1)] [] h := by
  refine g_aload_n d_222_7 rfl rfl ?_
  refine g_getf (ci := 9) (k := 14) d_222_8 wd_369 (Nat.le_of_ble_eq_true rfl) rfl rfl ?_
  refine g_aload_n d_222_11 rfl rfl ?_
  refine g_getf (ci := 9) (k := 15) d_222_12 wd_370 (Nat.le_of_ble_eq_true rfl) rfl rfl ?_
  refine g_iload_n d_222_15 rfl rfl ?_
  refine g_iast d_222_16 b0 ?_
  refine g_aload_n d_222_17 rfl rfl ?_
  refine g_dup d_222_18 rfl ?_
  refine g_getf (ci := 9) (k := 15) d_222_19 wd_370 (Nat.le_of_ble_eq_true rfl) rfl rfl ?_
  refine g_iconst (v := 1) d_222_22 (by decide) ?_
  refine g_iadd d_222_23 ?_
  refine g_putf (ci := 9) (k := 15) d_222_24 wd_370 (Nat.le_of_ble_eq_true rfl) (Nat.le_of_ble_eq_true rfl) rfl rfl (Or.inl ⟨rfl, rfl⟩) rfl ?_
  exact g_retv d_222_27 rfl hq

theorem k_222_27 {X : GX} {d : Nat} {h : Hp} (hq : RtX X none h) : G X d 222 27 [none, none] [] h := by
  exact g_retv d_222_27 rfl hq

/-! 223 PlayedTruthModel.doHere()I -/
theorem k_223_0 {X : GX} {d : Nat} {h : Hp} {d' : Nat} {Q' : Int32 → Hp → Prop} (hdd : d' < d) (hC : CI d' 214 [.ref 84, .long 259906] h Q') (kk : ∀ x h', Q' x h' → G X d 223 7 [some (.ref 84)] [.int x] h') : G X d 223 0 [some (.ref 84)] [] h := by
  refine g_aload_n d_223_0 rfl rfl ?_
  refine g_ldc2_w (v := 259906) d_223_1 wd_469 ?_
  exact g_callVI (mj := 214) 9 [.long 259906] [] d_223_4 wd_445 mo_214 mc_214 mv_214 rfl rfl rfl (Nat.le_of_ble_eq_true rfl) rfl hdd hC kk

theorem k_223_7 {X : GX} {d : Nat} {h : Hp} {s0 : Int32} (kt : s0 = 0 → G X d 223 14 [some (.ref 84)] [] h) (kf : ¬ s0 = 0 → G X d 223 10 [none] [] h) : G X d 223 7 [some (.ref 84)] [.int s0] h := by
  exact g_if_eq (tgt := 14) d_223_7 (by decide) kt (fun q => g_mask [false] (kf q))

theorem k_223_10 {X : GX} {d : Nat} {h : Hp} (hq : RtX X (some (.int 0)) h) : G X d 223 10 [none] [] h := by
  refine g_iconst (v := 0) d_223_10 (by decide) ?_
  refine g_goto (tgt := 43) d_223_11 (by decide) ?_
  exact g_reti d_223_43 rfl hq

theorem k_223_14 {X : GX} {d : Nat} {h : Hp} {d' : Nat} {Q' : Int32 → Hp → Prop} (hdd : d' < d) (hC : CI d' 214 [.ref 84, .long 220309] h Q') (kk : ∀ x h', Q' x h' → G X d 223 21 [some (.ref 84)] [.int x] h') : G X d 223 14 [some (.ref 84)] [] h := by
  refine g_aload_n d_223_14 rfl rfl ?_
  refine g_ldc2_w (v := 220309) d_223_15 wd_470 ?_
  exact g_callVI (mj := 214) 9 [.long 220309] [] d_223_18 wd_445 mo_214 mc_214 mv_214 rfl rfl rfl (Nat.le_of_ble_eq_true rfl) rfl hdd hC kk

theorem k_223_21 {X : GX} {d : Nat} {h : Hp} {s0 : Int32} (kt : s0 = 0 → G X d 223 28 [some (.ref 84)] [] h) (kf : ¬ s0 = 0 → G X d 223 24 [none] [] h) : G X d 223 21 [some (.ref 84)] [.int s0] h := by
  exact g_if_eq (tgt := 28) d_223_21 (by decide) kt (fun q => g_mask [false] (kf q))

theorem k_223_24 {X : GX} {d : Nat} {h : Hp} (hq : RtX X (some (.int 1)) h) : G X d 223 24 [none] [] h := by
  refine g_iconst (v := 1) d_223_24 (by decide) ?_
  refine g_goto (tgt := 43) d_223_25 (by decide) ?_
  exact g_reti d_223_43 rfl hq

theorem k_223_28 {X : GX} {d : Nat} {h : Hp} {d' : Nat} {Q' : Int32 → Hp → Prop} (hdd : d' < d) (hC : CI d' 214 [.ref 84, .long 407038] h Q') (kk : ∀ x h', Q' x h' → G X d 223 35 [none] [.int x] h') : G X d 223 28 [some (.ref 84)] [] h := by
  refine g_aload_n d_223_28 rfl rfl ?_
  refine g_ldc2_w (v := 407038) d_223_29 wd_471 ?_
  exact g_callVI (mj := 214) 9 [.long 407038] [] d_223_32 wd_445 mo_214 mc_214 mv_214 rfl rfl rfl (Nat.le_of_ble_eq_true rfl) rfl hdd hC (fun x h' q => g_mask [false] (kk x h' q))

theorem k_223_35 {X : GX} {d : Nat} {h : Hp} {s0 : Int32} (kt : s0 = 0 → G X d 223 42 [none] [] h) (kf : ¬ s0 = 0 → G X d 223 38 [none] [] h) : G X d 223 35 [none] [.int s0] h := by
  exact g_if_eq (tgt := 42) d_223_35 (by decide) kt kf

theorem k_223_38 {X : GX} {d : Nat} {h : Hp} (hq : RtX X (some (.int 2)) h) : G X d 223 38 [none] [] h := by
  refine g_iconst (v := 2) d_223_38 (by decide) ?_
  refine g_goto (tgt := 43) d_223_39 (by decide) ?_
  exact g_reti d_223_43 rfl hq

theorem k_223_42 {X : GX} {d : Nat} {h : Hp} (hq : RtX X (some (.int ((-1)))) h) : G X d 223 42 [none] [] h := by
  refine g_iconst (v := (-1)) d_223_42 (by decide) ?_
  exact g_reti d_223_43 rfl hq

/-! 224 PlayedTruthModel.night()I -/
theorem k_224_0 {X : GX} {d : Nat} {h : Hp} {d' : Nat} {Q' : Int32 → Hp → Prop} (hdd : d' < d) (hC : CI d' 205 [.ref 84] h Q') (kk : ∀ x h', Q' x h' → G X d 224 4 [some (.ref 84)] [.int x] h') : G X d 224 0 [some (.ref 84)] [] h := by
  refine g_aload_n d_224_0 rfl rfl ?_
  exact g_callVI (mj := 205) 9 [] [] d_224_1 wd_427 mo_205 mc_205 mv_205 rfl rfl rfl (Nat.le_of_ble_eq_true rfl) rfl hdd hC kk

theorem k_224_4 {X : GX} {d : Nat} {h : Hp} {s0 : Int32} (kt : s0 = 0 → G X d 224 12 [some (.ref 84)] [] h) (kf : ¬ s0 = 0 → G X d 224 7 [none] [] h) : G X d 224 4 [some (.ref 84)] [.int s0] h := by
  exact g_if_eq (tgt := 12) d_224_4 (by decide) kt (fun q => g_mask [false] (kf q))

theorem k_224_7 {X : GX} {d : Nat} {h : Hp} (hq : RtX X (some (.int ((-4)))) h) : G X d 224 7 [none] [] h := by
  refine g_bipush (v := (-4)) d_224_7 (by decide) ?_
  refine g_goto (tgt := 20) d_224_9 (by decide) ?_
  exact g_reti d_224_20 rfl hq

theorem k_224_12 {X : GX} {d : Nat} {h : Hp} {d' : Nat} {Q' : Int32 → Hp → Prop} (hdd : d' < d) (hC : CI d' 225 [.ref 84] h Q') (kk : ∀ x h', Q' x h' → G X d 224 17 [none] [.int x, .ref 84] h') : G X d 224 12 [some (.ref 84)] [] h := by
  refine g_aload_n d_224_12 rfl rfl ?_
  refine g_aload_n d_224_13 rfl rfl ?_
  exact g_callVI (mj := 225) 9 [] [.ref 84] d_224_14 wd_473 mo_225 mc_225 mv_225 rfl rfl rfl (Nat.le_of_ble_eq_true rfl) rfl hdd hC (fun x h' q => g_mask [false] (kk x h' q))

theorem k_224_17 {X : GX} {d : Nat} {h : Hp} {s0 : Int32} {s1 : Nat} {d' : Nat} {Q' : Int32 → Hp → Prop} (o0 : sh s1 = (1, 9)) (hdd : d' < d) (hC : CI d' 226 [.ref s1, .int s0] h Q') (kk : ∀ x h', Q' x h' → G X d 224 20 [none] [.int x] h') : G X d 224 17 [none] [.int s0, .ref s1] h := by
  exact g_callVI (mj := 226) 9 [.int s0] [] d_224_17 wd_474 mo_226 mc_226 mv_226 rfl rfl rfl (Nat.le_of_ble_eq_true rfl) o0 hdd hC kk

theorem k_224_20 {X : GX} {d : Nat} {h : Hp} {s0 : Int32} (hq : RtX X (some (.int s0)) h) : G X d 224 20 [none] [.int s0] h := by
  exact g_reti d_224_20 rfl hq

/-! 225 PlayedTruthModel.actOfRest()I -/
theorem k_225_0 {X : GX} {d : Nat} {h : Hp} (kk : G X d 225 2 [some (.ref 84), some (.int 0)] [] h) : G X d 225 0 [some (.ref 84), none] [] h := by
  refine g_iconst (v := 0) d_225_0 (by decide) ?_
  refine g_istore_n d_225_1 rfl (Nat.le_of_ble_eq_true rfl) rfl ?_
  exact kk

theorem k_225_2 {X : GX} {d : Nat} {h : Hp} {v1 : Int32} (b0 : IA 85 0) (kt : (h 85 (Int32.toNatClampNeg 0)) ≤ v1 → G X d 225 30 [none, none] [] h) (kf : ¬ (h 85 (Int32.toNatClampNeg 0)) ≤ v1 → G X d 225 12 [some (.ref 84), some (.int v1)] [] h) : G X d 225 2 [some (.ref 84), some (.int v1)] [] h := by
  refine g_iload_n d_225_2 rfl rfl ?_
  refine g_aload_n d_225_3 rfl rfl ?_
  refine g_getf (ci := 9) (k := 0) d_225_4 wd_355 (Nat.le_of_ble_eq_true rfl) rfl rfl ?_
  refine g_iconst (v := 0) d_225_7 (by decide) ?_
  refine g_iald d_225_8 b0 ?_
  exact g_icmp_ge (tgt := 30) d_225_9 (by decide) (fun q => g_mask [false, false] (kt q)) kf

theorem k_225_12 {X : GX} {d : Nat} {h : Hp} {v1 : Int32} {d' : Nat} {Q' : Int32 → Hp → Prop} (hdd : d' < d) (hC : CI d' 190 [.ref 84, .int v1] h Q') (kk : ∀ x h', Q' x h' → G X d 225 17 [some (.ref 84), some (.int v1)] [.int x] h') : G X d 225 12 [some (.ref 84), some (.int v1)] [] h := by
  refine g_aload_n d_225_12 rfl rfl ?_
  refine g_iload_n d_225_13 rfl rfl ?_
  exact g_callVI (mj := 190) 9 [.int v1] [] d_225_14 wd_410 mo_190 mc_190 mv_190 rfl rfl rfl (Nat.le_of_ble_eq_true rfl) rfl hdd hC kk

theorem k_225_17 {X : GX} {d : Nat} {h : Hp} {v1 : Int32} {s0 : Int32} (kt : s0 = 0 → G X d 225 24 [some (.ref 84), some (.int v1)] [] h) (kf : ¬ s0 = 0 → G X d 225 20 [none, some (.int v1)] [] h) : G X d 225 17 [some (.ref 84), some (.int v1)] [.int s0] h := by
  exact g_if_eq (tgt := 24) d_225_17 (by decide) kt (fun q => g_mask [false, true] (kf q))

theorem k_225_20 {X : GX} {d : Nat} {h : Hp} {v1 : Int32} (hq : RtX X (some (.int (v1 + 1))) h) : G X d 225 20 [none, some (.int v1)] [] h := by
  refine g_iload_n d_225_20 rfl rfl ?_
  refine g_iconst (v := 1) d_225_21 (by decide) ?_
  refine g_iadd d_225_22 ?_
  exact g_reti d_225_23 rfl hq

theorem k_225_24 {X : GX} {d : Nat} {h : Hp} {v1 : Int32} (kk : G X d 225 2 [some (.ref 84), some (.int (v1 + 1))] [] h) : G X d 225 24 [some (.ref 84), some (.int v1)] [] h := by
  refine g_iinc (w := 1) d_225_24 rfl (by decide) (Nat.le_of_ble_eq_true rfl) rfl ?_
  refine g_goto (tgt := 2) d_225_27 (by decide) ?_
  exact kk

theorem k_225_30 {X : GX} {d : Nat} {h : Hp} (hq : RtX X (some (.int 0)) h) : G X d 225 30 [none, none] [] h := by
  refine g_iconst (v := 0) d_225_30 (by decide) ?_
  exact g_reti d_225_31 rfl hq

/-! 226 PlayedTruthModel.nightGoes(I)I -/
theorem k_226_0 {X : GX} {d : Nat} {h : Hp} {v1 : Int32} (kt : v1 ≤ 0 → G X d 226 25 [some (.ref 84), none, none, none] [] h) (kf : ¬ v1 ≤ 0 → G X d 226 4 [some (.ref 84), some (.int v1), none, none] [] h) : G X d 226 0 [some (.ref 84), some (.int v1), none, none] [] h := by
  refine g_iload_n d_226_0 rfl rfl ?_
  exact g_if_le (tgt := 25) d_226_1 (by decide) (fun q => g_mask [true, false, false, false] (kt q)) kf

theorem k_226_4 {X : GX} {d : Nat} {h : Hp} {v1 : Int32} {d' : Nat} {Q' : Int32 → Hp → Prop} (hdd : d' < d) (hC : CI d' 182 [.ref 84, .int (v1 - 1), .int 4] h Q') (kk : ∀ x h', Q' x h' → G X d 226 12 [some (.ref 84), some (.int v1), none, none] [.int x] h') : G X d 226 4 [some (.ref 84), some (.int v1), none, none] [] h := by
  refine g_aload_n d_226_4 rfl rfl ?_
  refine g_iload_n d_226_5 rfl rfl ?_
  refine g_iconst (v := 1) d_226_6 (by decide) ?_
  refine g_isub d_226_7 ?_
  refine g_iconst (v := 4) d_226_8 (by decide) ?_
  exact g_callVI (mj := 182) 9 [.int (v1 - 1), .int 4] [] d_226_9 wd_402 mo_182 mc_182 mv_182 rfl rfl rfl (Nat.le_of_ble_eq_true rfl) rfl hdd hC kk

theorem k_226_12 {X : GX} {d : Nat} {h : Hp} {v1 : Int32} {s0 : Int32} (kt : ¬ s0 = 0 → G X d 226 25 [some (.ref 84), none, none, none] [] h) (kf : s0 = 0 → G X d 226 15 [some (.ref 84), some (.int v1), none, none] [] h) : G X d 226 12 [some (.ref 84), some (.int v1), none, none] [.int s0] h := by
  exact g_if_ne (tgt := 25) d_226_12 (by decide) (fun q => g_mask [true, false, false, false] (kt q)) kf

theorem k_226_15 {X : GX} {d : Nat} {h : Hp} {v1 : Int32} {d' : Nat} {Q' : Int32 → Hp → Prop} (hdd : d' < d) (hC : CI d' 227 [.ref 84, .int (v1 - 1)] h Q') (kk : ∀ x h', Q' x h' → G X d 226 22 [some (.ref 84), none, none, none] [.int x] h') : G X d 226 15 [some (.ref 84), some (.int v1), none, none] [] h := by
  refine g_aload_n d_226_15 rfl rfl ?_
  refine g_iload_n d_226_16 rfl rfl ?_
  refine g_iconst (v := 1) d_226_17 (by decide) ?_
  refine g_isub d_226_18 ?_
  exact g_callVI (mj := 227) 9 [.int (v1 - 1)] [] d_226_19 wd_475 mo_227 mc_227 mv_227 rfl rfl rfl (Nat.le_of_ble_eq_true rfl) rfl hdd hC (fun x h' q => g_mask [true, false, false, false] (kk x h' q))

theorem k_226_22 {X : GX} {d : Nat} {h : Hp} {s0 : Int32} (kk : G X d 226 29 [some (.ref 84), none, some (.int s0), some (.int 0)] [] h) : G X d 226 22 [some (.ref 84), none, none, none] [.int s0] h := by
  refine g_goto (tgt := 26) d_226_22 (by decide) ?_
  refine g_istore_n d_226_26 rfl (Nat.le_of_ble_eq_true rfl) rfl ?_
  refine g_iconst (v := 0) d_226_27 (by decide) ?_
  refine g_istore_n d_226_28 rfl (Nat.le_of_ble_eq_true rfl) rfl ?_
  exact kk

theorem k_226_25 {X : GX} {d : Nat} {h : Hp} (kk : G X d 226 29 [some (.ref 84), none, some (.int 0), some (.int 0)] [] h) : G X d 226 25 [some (.ref 84), none, none, none] [] h := by
  refine g_iconst (v := 0) d_226_25 (by decide) ?_
  refine g_istore_n d_226_26 rfl (Nat.le_of_ble_eq_true rfl) rfl ?_
  refine g_iconst (v := 0) d_226_27 (by decide) ?_
  refine g_istore_n d_226_28 rfl (Nat.le_of_ble_eq_true rfl) rfl ?_
  exact kk

theorem k_226_29 {X : GX} {d : Nat} {h : Hp} {v2 : Int32} {v3 : Int32} (b0 : IA 85 0) (kt : (h 85 (Int32.toNatClampNeg 0)) ≤ v3 → G X d 226 53 [some (.ref 84), none, some (.int v2), none] [] h) (kf : ¬ (h 85 (Int32.toNatClampNeg 0)) ≤ v3 → G X d 226 39 [some (.ref 84), none, some (.int v2), some (.int v3)] [] h) : G X d 226 29 [some (.ref 84), none, some (.int v2), some (.int v3)] [] h := by
  refine g_iload_n d_226_29 rfl rfl ?_
  refine g_aload_n d_226_30 rfl rfl ?_
  refine g_getf (ci := 9) (k := 0) d_226_31 wd_355 (Nat.le_of_ble_eq_true rfl) rfl rfl ?_
  refine g_iconst (v := 0) d_226_34 (by decide) ?_
  refine g_iald d_226_35 b0 ?_
  exact g_icmp_ge (tgt := 53) d_226_36 (by decide) (fun q => g_mask [true, false, true, false] (kt q)) kf

theorem k_226_39 {X : GX} {d : Nat} {h : Hp} {v2 : Int32} {v3 : Int32} {d' : Nat} {Q' : Int32 → Hp → Prop} (hdd : d' < d) (hC : CI d' 188 [.ref 84, .int v3] h Q') (kk : ∀ x h', Q' x h' → G X d 226 45 [some (.ref 84), none, none, some (.int v3)] [.int x, .int v2] h') : G X d 226 39 [some (.ref 84), none, some (.int v2), some (.int v3)] [] h := by
  refine g_iload_n d_226_39 rfl rfl ?_
  refine g_aload_n d_226_40 rfl rfl ?_
  refine g_iload_n d_226_41 rfl rfl ?_
  exact g_callVI (mj := 188) 9 [.int v3] [.int v2] d_226_42 wd_408 mo_188 mc_188 mv_188 rfl rfl rfl (Nat.le_of_ble_eq_true rfl) rfl hdd hC (fun x h' q => g_mask [true, false, false, true] (kk x h' q))

theorem k_226_45 {X : GX} {d : Nat} {h : Hp} {v3 : Int32} {s0 : Int32} {s1 : Int32} (kk : G X d 226 29 [some (.ref 84), none, some (.int (s1 + s0)), some (.int (v3 + 1))] [] h) : G X d 226 45 [some (.ref 84), none, none, some (.int v3)] [.int s0, .int s1] h := by
  refine g_iadd d_226_45 ?_
  refine g_istore_n d_226_46 rfl (Nat.le_of_ble_eq_true rfl) rfl ?_
  refine g_iinc (w := 1) d_226_47 rfl (by decide) (Nat.le_of_ble_eq_true rfl) rfl ?_
  refine g_goto (tgt := 29) d_226_50 (by decide) ?_
  exact kk

theorem k_226_53 {X : GX} {d : Nat} {h : Hp} {v2 : Int32} (kk : G X d 226 55 [some (.ref 84), none, some (.int v2), some (.int 0)] [] h) : G X d 226 53 [some (.ref 84), none, some (.int v2), none] [] h := by
  refine g_iconst (v := 0) d_226_53 (by decide) ?_
  refine g_istore_n d_226_54 rfl (Nat.le_of_ble_eq_true rfl) rfl ?_
  exact kk

theorem k_226_55 {X : GX} {d : Nat} {h : Hp} {v2 : Int32} {v3 : Int32} (b0 : IA 85 0) (kt : (h 85 (Int32.toNatClampNeg 0)) ≤ v3 → G X d 226 100 [some (.ref 84), none, some (.int v2), none] [] h) (kf : ¬ (h 85 (Int32.toNatClampNeg 0)) ≤ v3 → G X d 226 65 [some (.ref 84), none, some (.int v2), some (.int v3)] [] h) : G X d 226 55 [some (.ref 84), none, some (.int v2), some (.int v3)] [] h := by
  refine g_iload_n d_226_55 rfl rfl ?_
  refine g_aload_n d_226_56 rfl rfl ?_
  refine g_getf (ci := 9) (k := 0) d_226_57 wd_355 (Nat.le_of_ble_eq_true rfl) rfl rfl ?_
  refine g_iconst (v := 0) d_226_60 (by decide) ?_
  refine g_iald d_226_61 b0 ?_
  exact g_icmp_ge (tgt := 100) d_226_62 (by decide) (fun q => g_mask [true, false, true, false] (kt q)) kf

theorem k_226_65 {X : GX} {d : Nat} {h : Hp} {v2 : Int32} {v3 : Int32} {d' : Nat} {Q' : Int32 → Hp → Prop} (hdd : d' < d) (hC : CI d' 182 [.ref 84, .int v3, .int 4] h Q') (kk : ∀ x h', Q' x h' → G X d 226 71 [some (.ref 84), none, some (.int v2), some (.int v3)] [.int x] h') : G X d 226 65 [some (.ref 84), none, some (.int v2), some (.int v3)] [] h := by
  refine g_aload_n d_226_65 rfl rfl ?_
  refine g_iload_n d_226_66 rfl rfl ?_
  refine g_iconst (v := 4) d_226_67 (by decide) ?_
  exact g_callVI (mj := 182) 9 [.int v3, .int 4] [] d_226_68 wd_402 mo_182 mc_182 mv_182 rfl rfl rfl (Nat.le_of_ble_eq_true rfl) rfl hdd hC kk

theorem k_226_71 {X : GX} {d : Nat} {h : Hp} {v2 : Int32} {v3 : Int32} {s0 : Int32} (kt : ¬ s0 = 0 → G X d 226 94 [some (.ref 84), none, some (.int v2), some (.int v3)] [] h) (kf : s0 = 0 → G X d 226 74 [some (.ref 84), none, some (.int v2), some (.int v3)] [] h) : G X d 226 71 [some (.ref 84), none, some (.int v2), some (.int v3)] [.int s0] h := by
  exact g_if_ne (tgt := 94) d_226_71 (by decide) kt kf

theorem k_226_74 {X : GX} {d : Nat} {h : Hp} {v2 : Int32} {v3 : Int32} {d' : Nat} {Q' : Int32 → Hp → Prop} (hdd : d' < d) (hC : CI d' 182 [.ref 84, .int v3, .int 1] h Q') (kk : ∀ x h', Q' x h' → G X d 226 83 [some (.ref 84), none, some (.int v2), some (.int v3)] [.int x, .int 1, .int v3, .ref 84] h') : G X d 226 74 [some (.ref 84), none, some (.int v2), some (.int v3)] [] h := by
  refine g_aload_n d_226_74 rfl rfl ?_
  refine g_iload_n d_226_75 rfl rfl ?_
  refine g_iconst (v := 1) d_226_76 (by decide) ?_
  refine g_aload_n d_226_77 rfl rfl ?_
  refine g_iload_n d_226_78 rfl rfl ?_
  refine g_iconst (v := 1) d_226_79 (by decide) ?_
  exact g_callVI (mj := 182) 9 [.int v3, .int 1] [.int 1, .int v3, .ref 84] d_226_80 wd_402 mo_182 mc_182 mv_182 rfl rfl rfl (Nat.le_of_ble_eq_true rfl) rfl hdd hC kk

theorem k_226_83 {X : GX} {d : Nat} {h : Hp} {v2 : Int32} {v3 : Int32} {s0 : Int32} {s1 : Int32} {s2 : Int32} {s3 : Nat} {d' : Nat} {Q' : Int32 → Hp → Prop} (hdd : d' < d) (hC : CI d' 186 [.int (s0 - 1), .int 0, .int 99] h Q') (kk : ∀ x h', Q' x h' → G X d 226 91 [some (.ref 84), none, some (.int v2), some (.int v3)] [.int x, .int s1, .int s2, .ref s3] h') : G X d 226 83 [some (.ref 84), none, some (.int v2), some (.int v3)] [.int s0, .int s1, .int s2, .ref s3] h := by
  refine g_iconst (v := 1) d_226_83 (by decide) ?_
  refine g_isub d_226_84 ?_
  refine g_iconst (v := 0) d_226_85 (by decide) ?_
  refine g_bipush (v := 99) d_226_86 (by decide) ?_
  exact g_callSI (mj := 186) [.int (s0 - 1), .int 0, .int 99] [.int s1, .int s2, .ref s3] d_226_88 wd_406 mo_186 mc_186 mv_186 rfl rfl (Nat.le_of_ble_eq_true rfl)  hdd hC kk

theorem k_226_91 {X : GX} {d : Nat} {h : Hp} {v2 : Int32} {v3 : Int32} {s0 : Int32} {s1 : Int32} {s2 : Int32} {s3 : Nat} {d' : Nat} {Q' : Hp → Prop} (o0 : sh s3 = (1, 9)) (hdd : d' < d) (hC : CV d' 178 [.ref s3, .int s2, .int s1, .int s0] h Q') (kk : ∀ h', Q' h' → G X d 226 94 [some (.ref 84), none, some (.int v2), some (.int v3)] [] h') : G X d 226 91 [some (.ref 84), none, some (.int v2), some (.int v3)] [.int s0, .int s1, .int s2, .ref s3] h := by
  exact g_callVV (mj := 178) 9 [.int s2, .int s1, .int s0] [] d_226_91 wd_398 mo_178 mc_178 mv_178 rfl rfl rfl (Nat.le_of_ble_eq_true rfl) o0 hdd hC kk

theorem k_226_94 {X : GX} {d : Nat} {h : Hp} {v2 : Int32} {v3 : Int32} (kk : G X d 226 55 [some (.ref 84), none, some (.int v2), some (.int (v3 + 1))] [] h) : G X d 226 94 [some (.ref 84), none, some (.int v2), some (.int v3)] [] h := by
  refine g_iinc (w := 1) d_226_94 rfl (by decide) (Nat.le_of_ble_eq_true rfl) rfl ?_
  refine g_goto (tgt := 55) d_226_97 (by decide) ?_
  exact kk

theorem k_226_100 {X : GX} {d : Nat} {h : Hp} {v2 : Int32} (b0 : IA 85 3) (b1 : IA 85 1) (hq : RtX X (some (.int v2)) (wr (wr h 85 (Int32.toNatClampNeg 3) ((h 85 (Int32.toNatClampNeg 3)) + v2)) 85 (Int32.toNatClampNeg 1) (((wr h 85 (Int32.toNatClampNeg 3) ((h 85 (Int32.toNatClampNeg 3)) + v2)) 85 (Int32.toNatClampNeg 1)) + 1))) : G X d 226 100 [some (.ref 84), none, some (.int v2), none] [] h := by
  refine g_aload_n d_226_100 rfl rfl ?_
  refine g_getf (ci := 9) (k := 0) d_226_101 wd_355 (Nat.le_of_ble_eq_true rfl) rfl rfl ?_
  refine g_iconst (v := 3) d_226_104 (by decide) ?_
  refine g_dup2 d_226_105 rfl rfl ?_
  refine g_iald d_226_106 b0 ?_
  refine g_iload_n d_226_107 rfl rfl ?_
  refine g_iadd d_226_108 ?_
  refine g_iast d_226_109 b0 ?_
  refine g_aload_n d_226_110 rfl rfl ?_
  refine g_getf (ci := 9) (k := 0) d_226_111 wd_355 (Nat.le_of_ble_eq_true rfl) rfl rfl ?_
  refine g_iconst (v := 1) d_226_114 (by decide) ?_
  refine g_dup2 d_226_115 rfl rfl ?_
  refine g_iald d_226_116 b1 ?_
  refine g_iconst (v := 1) d_226_117 (by decide) ?_
  refine g_iadd d_226_118 ?_
  refine g_iast d_226_119 b1 ?_
  refine g_iload_n d_226_120 rfl rfl ?_
  exact g_reti d_226_121 rfl hq

/-! 227 PlayedTruthModel.does(I)I -/
theorem k_227_0 {X : GX} {d : Nat} {h : Hp} {v1 : Int32} {d' : Nat} {Q' : Int32 → Hp → Prop} (hdd : d' < d) (hC : CI d' 191 [.ref 84, .int v1] h Q') (kk : ∀ x h', Q' x h' → G X d 227 5 [some (.ref 84), some (.int v1), none, none] [.int x] h') : G X d 227 0 [some (.ref 84), some (.int v1), none, none] [] h := by
  refine g_aload_n d_227_0 rfl rfl ?_
  refine g_iload_n d_227_1 rfl rfl ?_
  exact g_callVI (mj := 191) 9 [.int v1] [] d_227_2 wd_411 mo_191 mc_191 mv_191 rfl rfl rfl (Nat.le_of_ble_eq_true rfl) rfl hdd hC kk

theorem k_227_5 {X : GX} {d : Nat} {h : Hp} {v1 : Int32} {s0 : Int32} (kt : ¬ s0 = 0 → G X d 227 60 [some (.ref 84), some (.int v1), some (.int s0), none] [] h) (kf : s0 = 0 → G X d 227 10 [some (.ref 84), some (.int v1), none, none] [] h) : G X d 227 5 [some (.ref 84), some (.int v1), none, none] [.int s0] h := by
  refine g_istore_n d_227_5 rfl (Nat.le_of_ble_eq_true rfl) rfl ?_
  refine g_iload_n d_227_6 rfl rfl ?_
  exact g_if_ne (tgt := 60) d_227_7 (by decide) kt (fun q => g_mask [true, true, false, false] (kf q))

theorem k_227_10 {X : GX} {d : Nat} {h : Hp} {v1 : Int32} {d' : Nat} {Q' : Int32 → Hp → Prop} (hdd : d' < d) (hC : CI d' 181 [.ref 84, .int v1] h Q') (kk : ∀ x h', Q' x h' → G X d 227 15 [some (.ref 84), some (.int v1), none, none] [.int x] h') : G X d 227 10 [some (.ref 84), some (.int v1), none, none] [] h := by
  refine g_aload_n d_227_10 rfl rfl ?_
  refine g_iload_n d_227_11 rfl rfl ?_
  exact g_callVI (mj := 181) 9 [.int v1] [] d_227_12 wd_401 mo_181 mc_181 mv_181 rfl rfl rfl (Nat.le_of_ble_eq_true rfl) rfl hdd hC kk

theorem k_227_15 {X : GX} {d : Nat} {h : Hp} {v1 : Int32} {s0 : Int32} {d' : Nat} {Q' : Int32 → Hp → Prop} (hdd : d' < d) (hC : CI d' 182 [.ref 84, .int v1, .int 1] h Q') (kk : ∀ x h', Q' x h' → G X d 227 25 [some (.ref 84), some (.int v1), none, some (.int s0)] [.int x, .int 1, .int v1, .ref 84] h') : G X d 227 15 [some (.ref 84), some (.int v1), none, none] [.int s0] h := by
  refine g_istore_n d_227_15 rfl (Nat.le_of_ble_eq_true rfl) rfl ?_
  refine g_aload_n d_227_16 rfl rfl ?_
  refine g_iload_n d_227_17 rfl rfl ?_
  refine g_iconst (v := 1) d_227_18 (by decide) ?_
  refine g_aload_n d_227_19 rfl rfl ?_
  refine g_iload_n d_227_20 rfl rfl ?_
  refine g_iconst (v := 1) d_227_21 (by decide) ?_
  exact g_callVI (mj := 182) 9 [.int v1, .int 1] [.int 1, .int v1, .ref 84] d_227_22 wd_402 mo_182 mc_182 mv_182 rfl rfl rfl (Nat.le_of_ble_eq_true rfl) rfl hdd hC kk

theorem k_227_25 {X : GX} {d : Nat} {h : Hp} {v1 : Int32} {v3 : Int32} {s0 : Int32} {s1 : Int32} {s2 : Int32} {s3 : Nat} {d' : Nat} {Q' : Int32 → Hp → Prop} (hdd : d' < d) (hC : CI d' 186 [.int (s0 + v3), .int 0, .int 99] h Q') (kk : ∀ x h', Q' x h' → G X d 227 33 [some (.ref 84), some (.int v1), none, some (.int v3)] [.int x, .int s1, .int s2, .ref s3] h') : G X d 227 25 [some (.ref 84), some (.int v1), none, some (.int v3)] [.int s0, .int s1, .int s2, .ref s3] h := by
  refine g_iload_n d_227_25 rfl rfl ?_
  refine g_iadd d_227_26 ?_
  refine g_iconst (v := 0) d_227_27 (by decide) ?_
  refine g_bipush (v := 99) d_227_28 (by decide) ?_
  exact g_callSI (mj := 186) [.int (s0 + v3), .int 0, .int 99] [.int s1, .int s2, .ref s3] d_227_30 wd_406 mo_186 mc_186 mv_186 rfl rfl (Nat.le_of_ble_eq_true rfl)  hdd hC kk

theorem k_227_33 {X : GX} {d : Nat} {h : Hp} {v1 : Int32} {v3 : Int32} {s0 : Int32} {s1 : Int32} {s2 : Int32} {s3 : Nat} {d' : Nat} {Q' : Hp → Prop} (o0 : sh s3 = (1, 9)) (hdd : d' < d) (hC : CV d' 178 [.ref s3, .int s2, .int s1, .int s0] h Q') (kk : ∀ h', Q' h' → G X d 227 36 [some (.ref 84), some (.int v1), none, some (.int v3)] [] h') : G X d 227 33 [some (.ref 84), some (.int v1), none, some (.int v3)] [.int s0, .int s1, .int s2, .ref s3] h := by
  exact g_callVV (mj := 178) 9 [.int s2, .int s1, .int s0] [] d_227_33 wd_398 mo_178 mc_178 mv_178 rfl rfl rfl (Nat.le_of_ble_eq_true rfl) o0 hdd hC kk

theorem k_227_36 {X : GX} {d : Nat} {h : Hp} {v1 : Int32} {v3 : Int32} {d' : Nat} {Q' : Int32 → Hp → Prop} (hdd : d' < d) (hC : CI d' 182 [.ref 84, .int v1, .int 1] h Q') (kk : ∀ x h', Q' x h' → G X d 227 45 [none, none, none, some (.int v3)] [.int x, .int 4, .int v1, .ref 84] h') : G X d 227 36 [some (.ref 84), some (.int v1), none, some (.int v3)] [] h := by
  refine g_aload_n d_227_36 rfl rfl ?_
  refine g_iload_n d_227_37 rfl rfl ?_
  refine g_iconst (v := 4) d_227_38 (by decide) ?_
  refine g_aload_n d_227_39 rfl rfl ?_
  refine g_iload_n d_227_40 rfl rfl ?_
  refine g_iconst (v := 1) d_227_41 (by decide) ?_
  exact g_callVI (mj := 182) 9 [.int v1, .int 1] [.int 4, .int v1, .ref 84] d_227_42 wd_402 mo_182 mc_182 mv_182 rfl rfl rfl (Nat.le_of_ble_eq_true rfl) rfl hdd hC (fun x h' q => g_mask [false, false, false, true] (kk x h' q))

theorem k_227_45 {X : GX} {d : Nat} {h : Hp} {v3 : Int32} {s0 : Int32} {s1 : Int32} {s2 : Int32} {s3 : Nat} (kt : s0 < 60 → G X d 227 54 [none, none, none, some (.int v3)] [.int s1, .int s2, .ref s3] h) (kf : ¬ s0 < 60 → G X d 227 50 [none, none, none, some (.int v3)] [.int s1, .int s2, .ref s3] h) : G X d 227 45 [none, none, none, some (.int v3)] [.int s0, .int s1, .int s2, .ref s3] h := by
  refine g_bipush (v := 60) d_227_45 (by decide) ?_
  exact g_icmp_lt (tgt := 54) d_227_47 (by decide) kt kf

theorem k_227_50 {X : GX} {d : Nat} {h : Hp} {v3 : Int32} {s0 : Int32} {s1 : Int32} {s2 : Nat} {d' : Nat} {Q' : Hp → Prop} (o0 : sh s2 = (1, 9)) (hdd : d' < d) (hC : CV d' 178 [.ref s2, .int s1, .int s0, .int 1] h Q') (kk : ∀ h', Q' h' → G X d 227 58 [none, none, none, some (.int v3)] [] h') : G X d 227 50 [none, none, none, some (.int v3)] [.int s0, .int s1, .ref s2] h := by
  refine g_iconst (v := 1) d_227_50 (by decide) ?_
  refine g_goto (tgt := 55) d_227_51 (by decide) ?_
  exact g_callVV (mj := 178) 9 [.int s1, .int s0, .int 1] [] d_227_55 wd_398 mo_178 mc_178 mv_178 rfl rfl rfl (Nat.le_of_ble_eq_true rfl) o0 hdd hC kk

theorem k_227_54 {X : GX} {d : Nat} {h : Hp} {v3 : Int32} {s0 : Int32} {s1 : Int32} {s2 : Nat} {d' : Nat} {Q' : Hp → Prop} (o0 : sh s2 = (1, 9)) (hdd : d' < d) (hC : CV d' 178 [.ref s2, .int s1, .int s0, .int 0] h Q') (kk : ∀ h', Q' h' → G X d 227 58 [none, none, none, some (.int v3)] [] h') : G X d 227 54 [none, none, none, some (.int v3)] [.int s0, .int s1, .ref s2] h := by
  refine g_iconst (v := 0) d_227_54 (by decide) ?_
  exact g_callVV (mj := 178) 9 [.int s1, .int s0, .int 0] [] d_227_55 wd_398 mo_178 mc_178 mv_178 rfl rfl rfl (Nat.le_of_ble_eq_true rfl) o0 hdd hC kk

theorem k_227_58 {X : GX} {d : Nat} {h : Hp} {v3 : Int32} (hq : RtX X (some (.int v3)) h) : G X d 227 58 [none, none, none, some (.int v3)] [] h := by
  refine g_iload_n d_227_58 rfl rfl ?_
  exact g_reti d_227_59 rfl hq

theorem k_227_60 {X : GX} {d : Nat} {h : Hp} {v1 : Int32} {v2 : Int32} (kt : ¬ v2 = 2 → G X d 227 121 [none, none, none, none] [] h) (kf : v2 = 2 → G X d 227 65 [some (.ref 84), some (.int v1), none, none] [] h) : G X d 227 60 [some (.ref 84), some (.int v1), some (.int v2), none] [] h := by
  refine g_iload_n d_227_60 rfl rfl ?_
  refine g_iconst (v := 2) d_227_61 (by decide) ?_
  exact g_icmp_ne (tgt := 121) d_227_62 (by decide) (fun q => g_mask [false, false, false, false] (kt q)) (fun q => g_mask [true, true, false, false] (kf q))

theorem k_227_65 {X : GX} {d : Nat} {h : Hp} {v1 : Int32} {d' : Nat} {Q' : Int32 → Hp → Prop} (hdd : d' < d) (hC : CI d' 182 [.ref 84, .int v1, .int 2] h Q') (kk : ∀ x h', Q' x h' → G X d 227 74 [some (.ref 84), some (.int v1), none, none] [.int x, .int 2, .int v1, .ref 84] h') : G X d 227 65 [some (.ref 84), some (.int v1), none, none] [] h := by
  refine g_aload_n d_227_65 rfl rfl ?_
  refine g_iload_n d_227_66 rfl rfl ?_
  refine g_iconst (v := 2) d_227_67 (by decide) ?_
  refine g_aload_n d_227_68 rfl rfl ?_
  refine g_iload_n d_227_69 rfl rfl ?_
  refine g_iconst (v := 2) d_227_70 (by decide) ?_
  exact g_callVI (mj := 182) 9 [.int v1, .int 2] [.int 2, .int v1, .ref 84] d_227_71 wd_402 mo_182 mc_182 mv_182 rfl rfl rfl (Nat.le_of_ble_eq_true rfl) rfl hdd hC kk

theorem k_227_74 {X : GX} {d : Nat} {h : Hp} {v1 : Int32} {s0 : Int32} {s1 : Int32} {s2 : Int32} {s3 : Nat} {d' : Nat} {Q' : Int32 → Hp → Prop} (hdd : d' < d) (hC : CI d' 186 [.int (s0 + 1), .int 0, .int 9] h Q') (kk : ∀ x h', Q' x h' → G X d 227 82 [some (.ref 84), some (.int v1), none, none] [.int x, .int s1, .int s2, .ref s3] h') : G X d 227 74 [some (.ref 84), some (.int v1), none, none] [.int s0, .int s1, .int s2, .ref s3] h := by
  refine g_iconst (v := 1) d_227_74 (by decide) ?_
  refine g_iadd d_227_75 ?_
  refine g_iconst (v := 0) d_227_76 (by decide) ?_
  refine g_bipush (v := 9) d_227_77 (by decide) ?_
  exact g_callSI (mj := 186) [.int (s0 + 1), .int 0, .int 9] [.int s1, .int s2, .ref s3] d_227_79 wd_406 mo_186 mc_186 mv_186 rfl rfl (Nat.le_of_ble_eq_true rfl)  hdd hC kk

theorem k_227_82 {X : GX} {d : Nat} {h : Hp} {v1 : Int32} {s0 : Int32} {s1 : Int32} {s2 : Int32} {s3 : Nat} {d' : Nat} {Q' : Hp → Prop} (o0 : sh s3 = (1, 9)) (hdd : d' < d) (hC : CV d' 178 [.ref s3, .int s2, .int s1, .int s0] h Q') (kk : ∀ h', Q' h' → G X d 227 85 [some (.ref 84), some (.int v1), none, none] [] h') : G X d 227 82 [some (.ref 84), some (.int v1), none, none] [.int s0, .int s1, .int s2, .ref s3] h := by
  exact g_callVV (mj := 178) 9 [.int s2, .int s1, .int s0] [] d_227_82 wd_398 mo_178 mc_178 mv_178 rfl rfl rfl (Nat.le_of_ble_eq_true rfl) o0 hdd hC kk

theorem k_227_85 {X : GX} {d : Nat} {h : Hp} {v1 : Int32} {d' : Nat} {Q' : Int32 → Hp → Prop} (hdd : d' < d) (hC : CI d' 182 [.ref 84, .int v1, .int 1] h Q') (kk : ∀ x h', Q' x h' → G X d 227 94 [some (.ref 84), none, none, none] [.int x, .int 1, .int v1, .ref 84] h') : G X d 227 85 [some (.ref 84), some (.int v1), none, none] [] h := by
  refine g_aload_n d_227_85 rfl rfl ?_
  refine g_iload_n d_227_86 rfl rfl ?_
  refine g_iconst (v := 1) d_227_87 (by decide) ?_
  refine g_aload_n d_227_88 rfl rfl ?_
  refine g_iload_n d_227_89 rfl rfl ?_
  refine g_iconst (v := 1) d_227_90 (by decide) ?_
  exact g_callVI (mj := 182) 9 [.int v1, .int 1] [.int 1, .int v1, .ref 84] d_227_91 wd_402 mo_182 mc_182 mv_182 rfl rfl rfl (Nat.le_of_ble_eq_true rfl) rfl hdd hC (fun x h' q => g_mask [true, false, false, false] (kk x h' q))

theorem k_227_94 {X : GX} {d : Nat} {h : Hp} {s0 : Int32} {s1 : Int32} {s2 : Int32} {s3 : Nat} {d' : Nat} {Q' : Int32 → Hp → Prop} (hdd : d' < d) (hC : CI d' 186 [.int (s0 - 10), .int 0, .int 99] h Q') (kk : ∀ x h', Q' x h' → G X d 227 103 [some (.ref 84), none, none, none] [.int x, .int s1, .int s2, .ref s3] h') : G X d 227 94 [some (.ref 84), none, none, none] [.int s0, .int s1, .int s2, .ref s3] h := by
  refine g_bipush (v := 10) d_227_94 (by decide) ?_
  refine g_isub d_227_96 ?_
  refine g_iconst (v := 0) d_227_97 (by decide) ?_
  refine g_bipush (v := 99) d_227_98 (by decide) ?_
  exact g_callSI (mj := 186) [.int (s0 - 10), .int 0, .int 99] [.int s1, .int s2, .ref s3] d_227_100 wd_406 mo_186 mc_186 mv_186 rfl rfl (Nat.le_of_ble_eq_true rfl)  hdd hC kk

theorem k_227_103 {X : GX} {d : Nat} {h : Hp} {s0 : Int32} {s1 : Int32} {s2 : Int32} {s3 : Nat} {d' : Nat} {Q' : Hp → Prop} (o0 : sh s3 = (1, 9)) (hdd : d' < d) (hC : CV d' 178 [.ref s3, .int s2, .int s1, .int s0] h Q') (kk : ∀ h', Q' h' → G X d 227 106 [some (.ref 84), none, none, none] [] h') : G X d 227 103 [some (.ref 84), none, none, none] [.int s0, .int s1, .int s2, .ref s3] h := by
  exact g_callVV (mj := 178) 9 [.int s2, .int s1, .int s0] [] d_227_103 wd_398 mo_178 mc_178 mv_178 rfl rfl rfl (Nat.le_of_ble_eq_true rfl) o0 hdd hC kk

theorem k_227_106 {X : GX} {d : Nat} {h : Hp} {d' : Nat} {Q' : Int32 → Hp → Prop} (b0 : IA 85 1) (hdd : d' < d) (hC : CI d' 184 [.ref 84, .int (h 85 (Int32.toNatClampNeg 1))] h Q') (kk : ∀ x h', Q' x h' → G X d 227 117 [none, none, none, none] [.int x, .int 2] h') : G X d 227 106 [some (.ref 84), none, none, none] [] h := by
  refine g_iconst (v := 2) d_227_106 (by decide) ?_
  refine g_aload_n d_227_107 rfl rfl ?_
  refine g_aload_n d_227_108 rfl rfl ?_
  refine g_getf (ci := 9) (k := 0) d_227_109 wd_355 (Nat.le_of_ble_eq_true rfl) rfl rfl ?_
  refine g_iconst (v := 1) d_227_112 (by decide) ?_
  refine g_iald d_227_113 b0 ?_
  exact g_callVI (mj := 184) 9 [.int (h 85 (Int32.toNatClampNeg 1))] [.int 2] d_227_114 wd_404 mo_184 mc_184 mv_184 rfl rfl rfl (Nat.le_of_ble_eq_true rfl) rfl hdd hC (fun x h' q => g_mask [false, false, false, false] (kk x h' q))

theorem k_227_117 {X : GX} {d : Nat} {h : Hp} {s0 : Int32} {s1 : Int32} (hq : RtX X (some (.int (s1 * (s0 - s0 / 4 * 4)))) h) : G X d 227 117 [none, none, none, none] [.int s0, .int s1] h := by
  refine g_iconst (v := 4) d_227_117 (by decide) ?_
  refine g_irem d_227_118 (by decide) ?_
  refine g_imul d_227_119 ?_
  exact g_reti d_227_120 rfl hq

theorem k_227_121 {X : GX} {d : Nat} {h : Hp} (hq : RtX X (some (.int 0)) h) : G X d 227 121 [none, none, none, none] [] h := by
  refine g_iconst (v := 0) d_227_121 (by decide) ?_
  exact g_reti d_227_122 rfl hq

/-! 228 PlayedTruthModel.on(I)I -/
theorem k_228_0 {X : GX} {d : Nat} {h : Hp} {v1 : Int32} {d' : Nat} {Q' : Int32 → Hp → Prop} (hdd : d' < d) (hC : CI d' 177 [.long (Int32.toInt64 v1), .long 0, .long 16] h Q') (kk : ∀ x h', Q' x h' → G X d 228 9 [some (.ref 84), some (.int v1), none] [.int x] h') : G X d 228 0 [some (.ref 84), some (.int v1), none] [] h := by
  refine g_iload_n d_228_0 rfl rfl ?_
  refine g_i2l d_228_1 ?_
  refine g_lconst (v := 0) d_228_2 (by decide) ?_
  refine g_ldc2_w (v := 16) d_228_3 wd_424 ?_
  exact g_callSI (mj := 177) [.long (Int32.toInt64 v1), .long 0, .long 16] [] d_228_6 wd_395 mo_177 mc_177 mv_177 rfl rfl (Nat.le_of_ble_eq_true rfl)  hdd hC kk

theorem k_228_9 {X : GX} {d : Nat} {h : Hp} {v1 : Int32} {s0 : Int32} (kt : ¬ s0 = 0 → G X d 228 14 [some (.ref 84), some (.int v1), none] [] h) (kf : s0 = 0 → G X d 228 12 [none, none, none] [] h) : G X d 228 9 [some (.ref 84), some (.int v1), none] [.int s0] h := by
  exact g_if_ne (tgt := 14) d_228_9 (by decide) kt (fun q => g_mask [false, false, false] (kf q))

theorem k_228_12 {X : GX} {d : Nat} {h : Hp} (hq : RtX X (some (.int ((-1)))) h) : G X d 228 12 [none, none, none] [] h := by
  refine g_iconst (v := (-1)) d_228_12 (by decide) ?_
  exact g_reti d_228_13 rfl hq

theorem k_228_14 {X : GX} {d : Nat} {h : Hp} {v1 : Int32} {d' : Nat} {Q' : Hp → Prop} (hdd : d' < d) (hC : CV d' 229 [.ref 84] h Q') (kk : ∀ h', Q' h' → G X d 228 18 [some (.ref 84), some (.int v1), none] [] h') : G X d 228 14 [some (.ref 84), some (.int v1), none] [] h := by
  refine g_aload_n d_228_14 rfl rfl ?_
  exact g_callVV (mj := 229) 9 [] [] d_228_15 wd_477 mo_229 mc_229 mv_229 rfl rfl rfl (Nat.le_of_ble_eq_true rfl) rfl hdd hC kk

theorem k_228_18 {X : GX} {d : Nat} {h : Hp} {v1 : Int32} {d' : Nat} {Q' : Int32 → Hp → Prop} (hdd : d' < d) (hC : CI d' 230 [.ref 84, .int v1] h Q') (kk : ∀ x h', Q' x h' → G X d 228 23 [some (.ref 84), none, none] [.int x] h') : G X d 228 18 [some (.ref 84), some (.int v1), none] [] h := by
  refine g_aload_n d_228_18 rfl rfl ?_
  refine g_iload_n d_228_19 rfl rfl ?_
  exact g_callVI (mj := 230) 9 [.int v1] [] d_228_20 wd_478 mo_230 mc_230 mv_230 rfl rfl rfl (Nat.le_of_ble_eq_true rfl) rfl hdd hC (fun x h' q => g_mask [true, false, false] (kk x h' q))

theorem k_228_23 {X : GX} {d : Nat} {h : Hp} {s0 : Int32} {d' : Nat} {Q' : Hp → Prop} (hdd : d' < d) (hC : CV d' 231 [.ref 84] h Q') (kk : ∀ h', Q' h' → G X d 228 28 [none, none, some (.int s0)] [] h') : G X d 228 23 [some (.ref 84), none, none] [.int s0] h := by
  refine g_istore_n d_228_23 rfl (Nat.le_of_ble_eq_true rfl) rfl ?_
  refine g_aload_n d_228_24 rfl rfl ?_
  exact g_callVV (mj := 231) 9 [] [] d_228_25 wd_479 mo_231 mc_231 mv_231 rfl rfl rfl (Nat.le_of_ble_eq_true rfl) rfl hdd hC (fun h' q => g_mask [false, false, true] (kk h' q))

theorem k_228_28 {X : GX} {d : Nat} {h : Hp} {v2 : Int32} (hq : RtX X (some (.int v2)) h) : G X d 228 28 [none, none, some (.int v2)] [] h := by
  refine g_iload_n d_228_28 rfl rfl ?_
  exact g_reti d_228_29 rfl hq

/-! 229 PlayedTruthModel.puts()V -/
theorem k_229_0 {X : GX} {d : Nat} {h : Hp} (kk : G X d 229 2 [some (.ref 84), some (.int 0)] [] h) : G X d 229 0 [some (.ref 84), none] [] h := by
  refine g_iconst (v := 0) d_229_0 (by decide) ?_
  refine g_istore_n d_229_1 rfl (Nat.le_of_ble_eq_true rfl) rfl ?_
  exact kk

theorem k_229_2 {X : GX} {d : Nat} {h : Hp} {v1 : Int32} (kt : 65 ≤ v1 → G X d 229 34 [some (.ref 84), none] [] h) (kf : ¬ 65 ≤ v1 → G X d 229 8 [some (.ref 84), some (.int v1)] [] h) : G X d 229 2 [some (.ref 84), some (.int v1)] [] h := by
  refine g_iload_n d_229_2 rfl rfl ?_
  refine g_bipush (v := 65) d_229_3 (by decide) ?_
  exact g_icmp_ge (tgt := 34) d_229_5 (by decide) (fun q => g_mask [true, false] (kt q)) kf

theorem k_229_8 {X : GX} {d : Nat} {h : Hp} {v1 : Int32} (b0 : IA 85 v1) (b1 : IA 87 ((65 * (h 84 4)) + v1)) (kk : G X d 229 2 [some (.ref 84), some (.int (v1 + 1))] [] (wr h 87 (Int32.toNatClampNeg ((65 * (h 84 4)) + v1)) (h 85 (Int32.toNatClampNeg v1)))) : G X d 229 8 [some (.ref 84), some (.int v1)] [] h := by
  refine g_aload_n d_229_8 rfl rfl ?_
  refine g_getf (ci := 9) (k := 3) d_229_9 wd_358 (Nat.le_of_ble_eq_true rfl) rfl rfl ?_
  refine g_bipush (v := 65) d_229_12 (by decide) ?_
  refine g_aload_n d_229_14 rfl rfl ?_
  refine g_getf (ci := 9) (k := 4) d_229_15 wd_359 (Nat.le_of_ble_eq_true rfl) rfl rfl ?_
  refine g_imul d_229_18 ?_
  refine g_iload_n d_229_19 rfl rfl ?_
  refine g_iadd d_229_20 ?_
  refine g_aload_n d_229_21 rfl rfl ?_
  refine g_getf (ci := 9) (k := 0) d_229_22 wd_355 (Nat.le_of_ble_eq_true rfl) rfl rfl ?_
  refine g_iload_n d_229_25 rfl rfl ?_
  refine g_iald d_229_26 b0 ?_
  refine g_iast d_229_27 b1 ?_
  refine g_iinc (w := 1) d_229_28 rfl (by decide) (Nat.le_of_ble_eq_true rfl) rfl ?_
  refine g_goto (tgt := 2) d_229_31 (by decide) ?_
  exact kk

theorem k_229_34 {X : GX} {d : Nat} {h : Hp} (hq : RtX X none (wr h 84 4 ((h 84 4) + 1))) : G X d 229 34 [some (.ref 84), none] [] h := by
  refine g_aload_n d_229_34 rfl rfl ?_
  refine g_dup d_229_35 rfl ?_
  refine g_getf (ci := 9) (k := 4) d_229_36 wd_359 (Nat.le_of_ble_eq_true rfl) rfl rfl ?_
  refine g_iconst (v := 1) d_229_39 (by decide) ?_
  refine g_iadd d_229_40 ?_
  refine g_putf (ci := 9) (k := 4) d_229_41 wd_359 (Nat.le_of_ble_eq_true rfl) (Nat.le_of_ble_eq_true rfl) rfl rfl (Or.inl ⟨rfl, rfl⟩) rfl ?_
  exact g_retv d_229_44 rfl hq

/-! 230 PlayedTruthModel.restGoes(I)I -/
theorem k_230_0 {X : GX} {d : Nat} {h : Hp} {v1 : Int32} (kk : G X d 230 4 [some (.ref 84), some (.int v1), some (.int 0), some (.int 0)] [] h) : G X d 230 0 [some (.ref 84), some (.int v1), none, none] [] h := by
  refine g_iconst (v := 0) d_230_0 (by decide) ?_
  refine g_istore_n d_230_1 rfl (Nat.le_of_ble_eq_true rfl) rfl ?_
  refine g_iconst (v := 0) d_230_2 (by decide) ?_
  refine g_istore_n d_230_3 rfl (Nat.le_of_ble_eq_true rfl) rfl ?_
  exact kk

theorem k_230_4 {X : GX} {d : Nat} {h : Hp} {v1 : Int32} {v2 : Int32} {v3 : Int32} (kt : v1 ≤ v3 → G X d 230 33 [none, none, some (.int v2), none] [] h) (kf : ¬ v1 ≤ v3 → G X d 230 9 [some (.ref 84), some (.int v1), some (.int v2), some (.int v3)] [] h) : G X d 230 4 [some (.ref 84), some (.int v1), some (.int v2), some (.int v3)] [] h := by
  refine g_iload_n d_230_4 rfl rfl ?_
  refine g_iload_n d_230_5 rfl rfl ?_
  exact g_icmp_ge (tgt := 33) d_230_6 (by decide) (fun q => g_mask [false, false, true, false] (kt q)) kf

theorem k_230_9 {X : GX} {d : Nat} {h : Hp} {v1 : Int32} {v2 : Int32} {v3 : Int32} {d' : Nat} {Q' : Int32 → Hp → Prop} (hdd : d' < d) (hC : CI d' 205 [.ref 84] h Q') (kk : ∀ x h', Q' x h' → G X d 230 13 [some (.ref 84), some (.int v1), some (.int v2), some (.int v3)] [.int x] h') : G X d 230 9 [some (.ref 84), some (.int v1), some (.int v2), some (.int v3)] [] h := by
  refine g_aload_n d_230_9 rfl rfl ?_
  exact g_callVI (mj := 205) 9 [] [] d_230_10 wd_427 mo_205 mc_205 mv_205 rfl rfl rfl (Nat.le_of_ble_eq_true rfl) rfl hdd hC kk

theorem k_230_13 {X : GX} {d : Nat} {h : Hp} {v1 : Int32} {v2 : Int32} {v3 : Int32} {s0 : Int32} (kt : ¬ s0 = 0 → G X d 230 33 [none, none, some (.int v2), none] [] h) (kf : s0 = 0 → G X d 230 16 [some (.ref 84), some (.int v1), some (.int v2), some (.int v3)] [] h) : G X d 230 13 [some (.ref 84), some (.int v1), some (.int v2), some (.int v3)] [.int s0] h := by
  exact g_if_ne (tgt := 33) d_230_13 (by decide) (fun q => g_mask [false, false, true, false] (kt q)) kf

theorem k_230_16 {X : GX} {d : Nat} {h : Hp} {v1 : Int32} {v2 : Int32} {v3 : Int32} {d' : Nat} {Q' : Int32 → Hp → Prop} (hdd : d' < d) (hC : CI d' 225 [.ref 84] h Q') (kk : ∀ x h', Q' x h' → G X d 230 22 [some (.ref 84), some (.int v1), none, some (.int v3)] [.int x, .ref 84, .int v2] h') : G X d 230 16 [some (.ref 84), some (.int v1), some (.int v2), some (.int v3)] [] h := by
  refine g_iload_n d_230_16 rfl rfl ?_
  refine g_aload_n d_230_17 rfl rfl ?_
  refine g_aload_n d_230_18 rfl rfl ?_
  exact g_callVI (mj := 225) 9 [] [.ref 84, .int v2] d_230_19 wd_473 mo_225 mc_225 mv_225 rfl rfl rfl (Nat.le_of_ble_eq_true rfl) rfl hdd hC (fun x h' q => g_mask [true, true, false, true] (kk x h' q))

theorem k_230_22 {X : GX} {d : Nat} {h : Hp} {v1 : Int32} {v3 : Int32} {s0 : Int32} {s1 : Nat} {s2 : Int32} {d' : Nat} {Q' : Int32 → Hp → Prop} (o0 : sh s1 = (1, 9)) (hdd : d' < d) (hC : CI d' 226 [.ref s1, .int s0] h Q') (kk : ∀ x h', Q' x h' → G X d 230 25 [some (.ref 84), some (.int v1), none, some (.int v3)] [.int x, .int s2] h') : G X d 230 22 [some (.ref 84), some (.int v1), none, some (.int v3)] [.int s0, .ref s1, .int s2] h := by
  exact g_callVI (mj := 226) 9 [.int s0] [.int s2] d_230_22 wd_474 mo_226 mc_226 mv_226 rfl rfl rfl (Nat.le_of_ble_eq_true rfl) o0 hdd hC kk

theorem k_230_25 {X : GX} {d : Nat} {h : Hp} {v1 : Int32} {v3 : Int32} {s0 : Int32} {s1 : Int32} (kk : G X d 230 4 [some (.ref 84), some (.int v1), some (.int (s1 + s0)), some (.int (v3 + 1))] [] h) : G X d 230 25 [some (.ref 84), some (.int v1), none, some (.int v3)] [.int s0, .int s1] h := by
  refine g_iadd d_230_25 ?_
  refine g_istore_n d_230_26 rfl (Nat.le_of_ble_eq_true rfl) rfl ?_
  refine g_iinc (w := 1) d_230_27 rfl (by decide) (Nat.le_of_ble_eq_true rfl) rfl ?_
  refine g_goto (tgt := 4) d_230_30 (by decide) ?_
  exact kk

theorem k_230_33 {X : GX} {d : Nat} {h : Hp} {v2 : Int32} (hq : RtX X (some (.int v2)) h) : G X d 230 33 [none, none, some (.int v2), none] [] h := by
  refine g_iload_n d_230_33 rfl rfl ?_
  exact g_reti d_230_34 rfl hq

/-! 231 PlayedTruthModel.takes()V -/
theorem k_231_0 {X : GX} {d : Nat} {h : Hp} {d' : Nat} {Q' : Hp → Prop} (hdd : d' < d) (hC : CV d' 232 [.ref 84] h Q') (kk : ∀ h', Q' h' → G X d 231 4 [some (.ref 84)] [] h') : G X d 231 0 [some (.ref 84)] [] h := by
  refine g_aload_n d_231_0 rfl rfl ?_
  exact g_callVV (mj := 232) 9 [] [] d_231_1 wd_480 mo_232 mc_232 mv_232 rfl rfl rfl (Nat.le_of_ble_eq_true rfl) rfl hdd hC kk

theorem k_231_4 {X : GX} {d : Nat} {h : Hp} (hq : RtX X none (wr h 84 4 ((h 84 4) - 1))) : G X d 231 4 [some (.ref 84)] [] h := by
  refine g_aload_n d_231_4 rfl rfl ?_
  refine g_dup d_231_5 rfl ?_
  refine g_getf (ci := 9) (k := 4) d_231_6 wd_359 (Nat.le_of_ble_eq_true rfl) rfl rfl ?_
  refine g_iconst (v := 1) d_231_9 (by decide) ?_
  refine g_isub d_231_10 ?_
  refine g_putf (ci := 9) (k := 4) d_231_11 wd_359 (Nat.le_of_ble_eq_true rfl) (Nat.le_of_ble_eq_true rfl) rfl rfl (Or.inl ⟨rfl, rfl⟩) rfl ?_
  exact g_retv d_231_14 rfl hq

/-! 232 PlayedTruthModel.back()V -/
theorem k_232_0 {X : GX} {d : Nat} {h : Hp} (kk : G X d 232 2 [some (.ref 84), some (.int 0)] [] h) : G X d 232 0 [some (.ref 84), none] [] h := by
  refine g_iconst (v := 0) d_232_0 (by decide) ?_
  refine g_istore_n d_232_1 rfl (Nat.le_of_ble_eq_true rfl) rfl ?_
  exact kk

theorem k_232_2 {X : GX} {d : Nat} {h : Hp} {v1 : Int32} (kt : 65 ≤ v1 → G X d 232 36 [none, none] [] h) (kf : ¬ 65 ≤ v1 → G X d 232 8 [some (.ref 84), some (.int v1)] [] h) : G X d 232 2 [some (.ref 84), some (.int v1)] [] h := by
  refine g_iload_n d_232_2 rfl rfl ?_
  refine g_bipush (v := 65) d_232_3 (by decide) ?_
  exact g_icmp_ge (tgt := 36) d_232_5 (by decide) (fun q => g_mask [false, false] (kt q)) kf

theorem k_232_8 {X : GX} {d : Nat} {h : Hp} {v1 : Int32} (b0 : IA 87 ((65 * ((h 84 4) - 1)) + v1)) (b1 : IA 85 v1) (kk : G X d 232 2 [some (.ref 84), some (.int (v1 + 1))] [] (wr h 85 (Int32.toNatClampNeg v1) (h 87 (Int32.toNatClampNeg ((65 * ((h 84 4) - 1)) + v1))))) : G X d 232 8 [some (.ref 84), some (.int v1)] [] h := by
  refine g_aload_n d_232_8 rfl rfl ?_
  refine g_getf (ci := 9) (k := 0) d_232_9 wd_355 (Nat.le_of_ble_eq_true rfl) rfl rfl ?_
  refine g_iload_n d_232_12 rfl rfl ?_
  refine g_aload_n d_232_13 rfl rfl ?_
  refine g_getf (ci := 9) (k := 3) d_232_14 wd_358 (Nat.le_of_ble_eq_true rfl) rfl rfl ?_
  refine g_bipush (v := 65) d_232_17 (by decide) ?_
  refine g_aload_n d_232_19 rfl rfl ?_
  refine g_getf (ci := 9) (k := 4) d_232_20 wd_359 (Nat.le_of_ble_eq_true rfl) rfl rfl ?_
  refine g_iconst (v := 1) d_232_23 (by decide) ?_
  refine g_isub d_232_24 ?_
  refine g_imul d_232_25 ?_
  refine g_iload_n d_232_26 rfl rfl ?_
  refine g_iadd d_232_27 ?_
  refine g_iald d_232_28 b0 ?_
  refine g_iast d_232_29 b1 ?_
  refine g_iinc (w := 1) d_232_30 rfl (by decide) (Nat.le_of_ble_eq_true rfl) rfl ?_
  refine g_goto (tgt := 2) d_232_33 (by decide) ?_
  exact kk

theorem k_232_36 {X : GX} {d : Nat} {h : Hp} (hq : RtX X none h) : G X d 232 36 [none, none] [] h := by
  exact g_retv d_232_36 rfl hq

/-! 233 PlayedTruthModel.when(I)I -/
theorem k_233_0 {X : GX} {d : Nat} {h : Hp} {v1 : Int32} {d' : Nat} {Q' : Int32 → Hp → Prop} (hdd : d' < d) (hC : CI d' 180 [.ref 84, .int v1] h Q') (kk : ∀ x h', Q' x h' → G X d 233 5 [some (.ref 84), some (.int v1), none] [.int x] h') : G X d 233 0 [some (.ref 84), some (.int v1), none] [] h := by
  refine g_aload_n d_233_0 rfl rfl ?_
  refine g_iload_n d_233_1 rfl rfl ?_
  exact g_callVI (mj := 180) 9 [.int v1] [] d_233_2 wd_400 mo_180 mc_180 mv_180 rfl rfl rfl (Nat.le_of_ble_eq_true rfl) rfl hdd hC kk

theorem k_233_5 {X : GX} {d : Nat} {h : Hp} {v1 : Int32} {s0 : Int32} (kt : ¬ s0 = 0 → G X d 233 10 [some (.ref 84), some (.int v1), none] [] h) (kf : s0 = 0 → G X d 233 8 [none, none, none] [] h) : G X d 233 5 [some (.ref 84), some (.int v1), none] [.int s0] h := by
  exact g_if_ne (tgt := 10) d_233_5 (by decide) kt (fun q => g_mask [false, false, false] (kf q))

theorem k_233_8 {X : GX} {d : Nat} {h : Hp} (hq : RtX X (some (.int ((-1)))) h) : G X d 233 8 [none, none, none] [] h := by
  refine g_iconst (v := (-1)) d_233_8 (by decide) ?_
  exact g_reti d_233_9 rfl hq

theorem k_233_10 {X : GX} {d : Nat} {h : Hp} {v1 : Int32} {d' : Nat} {Q' : Int32 → Hp → Prop} (hdd : d' < d) (hC : CI d' 182 [.ref 84, .int v1, .int 4] h Q') (kk : ∀ x h', Q' x h' → G X d 233 16 [some (.ref 84), some (.int v1), none] [.int x] h') : G X d 233 10 [some (.ref 84), some (.int v1), none] [] h := by
  refine g_aload_n d_233_10 rfl rfl ?_
  refine g_iload_n d_233_11 rfl rfl ?_
  refine g_iconst (v := 4) d_233_12 (by decide) ?_
  exact g_callVI (mj := 182) 9 [.int v1, .int 4] [] d_233_13 wd_402 mo_182 mc_182 mv_182 rfl rfl rfl (Nat.le_of_ble_eq_true rfl) rfl hdd hC kk

theorem k_233_16 {X : GX} {d : Nat} {h : Hp} {v1 : Int32} {s0 : Int32} (kt : ¬ s0 = 1 → G X d 233 23 [some (.ref 84), some (.int v1), none] [] h) (kf : s0 = 1 → G X d 233 20 [none, none, none] [] h) : G X d 233 16 [some (.ref 84), some (.int v1), none] [.int s0] h := by
  refine g_iconst (v := 1) d_233_16 (by decide) ?_
  exact g_icmp_ne (tgt := 23) d_233_17 (by decide) kt (fun q => g_mask [false, false, false] (kf q))

theorem k_233_20 {X : GX} {d : Nat} {h : Hp} (hq : RtX X (some (.int ((-3)))) h) : G X d 233 20 [none, none, none] [] h := by
  refine g_bipush (v := (-3)) d_233_20 (by decide) ?_
  exact g_reti d_233_22 rfl hq

theorem k_233_23 {X : GX} {d : Nat} {h : Hp} {v1 : Int32} {d' : Nat} {Q' : Hp → Prop} (hdd : d' < d) (hC : CV d' 229 [.ref 84] h Q') (kk : ∀ h', Q' h' → G X d 233 27 [some (.ref 84), some (.int v1), none] [] h') : G X d 233 23 [some (.ref 84), some (.int v1), none] [] h := by
  refine g_aload_n d_233_23 rfl rfl ?_
  exact g_callVV (mj := 229) 9 [] [] d_233_24 wd_477 mo_229 mc_229 mv_229 rfl rfl rfl (Nat.le_of_ble_eq_true rfl) rfl hdd hC kk

theorem k_233_27 {X : GX} {d : Nat} {h : Hp} {v1 : Int32} {d' : Nat} {Q' : Int32 → Hp → Prop} (hdd : d' < d) (hC : CI d' 205 [.ref 84] h Q') (kk : ∀ x h', Q' x h' → G X d 233 31 [some (.ref 84), some (.int v1), none] [.int x] h') : G X d 233 27 [some (.ref 84), some (.int v1), none] [] h := by
  refine g_aload_n d_233_27 rfl rfl ?_
  exact g_callVI (mj := 205) 9 [] [] d_233_28 wd_427 mo_205 mc_205 mv_205 rfl rfl rfl (Nat.le_of_ble_eq_true rfl) rfl hdd hC kk

theorem k_233_31 {X : GX} {d : Nat} {h : Hp} {v1 : Int32} {s0 : Int32} (kt : ¬ s0 = 0 → G X d 233 55 [some (.ref 84), some (.int v1), none] [] h) (kf : s0 = 0 → G X d 233 34 [some (.ref 84), some (.int v1), none] [] h) : G X d 233 31 [some (.ref 84), some (.int v1), none] [.int s0] h := by
  exact g_if_ne (tgt := 55) d_233_31 (by decide) kt kf

theorem k_233_34 {X : GX} {d : Nat} {h : Hp} {v1 : Int32} {d' : Nat} {Q' : Int32 → Hp → Prop} (hdd : d' < d) (hC : CI d' 182 [.ref 84, .int v1, .int 4] h Q') (kk : ∀ x h', Q' x h' → G X d 233 40 [some (.ref 84), some (.int v1), none] [.int x] h') : G X d 233 34 [some (.ref 84), some (.int v1), none] [] h := by
  refine g_aload_n d_233_34 rfl rfl ?_
  refine g_iload_n d_233_35 rfl rfl ?_
  refine g_iconst (v := 4) d_233_36 (by decide) ?_
  exact g_callVI (mj := 182) 9 [.int v1, .int 4] [] d_233_37 wd_402 mo_182 mc_182 mv_182 rfl rfl rfl (Nat.le_of_ble_eq_true rfl) rfl hdd hC kk

theorem k_233_40 {X : GX} {d : Nat} {h : Hp} {v1 : Int32} {s0 : Int32} (kt : ¬ s0 = 0 → G X d 233 55 [some (.ref 84), some (.int v1), none] [] h) (kf : s0 = 0 → G X d 233 43 [some (.ref 84), some (.int v1), none] [] h) : G X d 233 40 [some (.ref 84), some (.int v1), none] [.int s0] h := by
  exact g_if_ne (tgt := 55) d_233_40 (by decide) kt kf

theorem k_233_43 {X : GX} {d : Nat} {h : Hp} {v1 : Int32} {d' : Nat} {Q' : Int32 → Hp → Prop} (hdd : d' < d) (hC : CI d' 225 [.ref 84] h Q') (kk : ∀ x h', Q' x h' → G X d 233 48 [some (.ref 84), some (.int v1), none] [.int x, .ref 84] h') : G X d 233 43 [some (.ref 84), some (.int v1), none] [] h := by
  refine g_aload_n d_233_43 rfl rfl ?_
  refine g_aload_n d_233_44 rfl rfl ?_
  exact g_callVI (mj := 225) 9 [] [.ref 84] d_233_45 wd_473 mo_225 mc_225 mv_225 rfl rfl rfl (Nat.le_of_ble_eq_true rfl) rfl hdd hC kk

theorem k_233_48 {X : GX} {d : Nat} {h : Hp} {v1 : Int32} {s0 : Int32} {s1 : Nat} {d' : Nat} {Q' : Int32 → Hp → Prop} (o0 : sh s1 = (1, 9)) (hdd : d' < d) (hC : CI d' 226 [.ref s1, .int s0] h Q') (kk : ∀ x h', Q' x h' → G X d 233 51 [some (.ref 84), some (.int v1), none] [.int x] h') : G X d 233 48 [some (.ref 84), some (.int v1), none] [.int s0, .ref s1] h := by
  exact g_callVI (mj := 226) 9 [.int s0] [] d_233_48 wd_474 mo_226 mc_226 mv_226 rfl rfl rfl (Nat.le_of_ble_eq_true rfl) o0 hdd hC kk

theorem k_233_51 {X : GX} {d : Nat} {h : Hp} {v1 : Int32} {s0 : Int32} (kk : G X d 233 27 [some (.ref 84), some (.int v1), none] [] h) : G X d 233 51 [some (.ref 84), some (.int v1), none] [.int s0] h := by
  refine g_pop d_233_51 rfl ?_
  refine g_goto (tgt := 27) d_233_52 (by decide) ?_
  exact kk

theorem k_233_55 {X : GX} {d : Nat} {h : Hp} {v1 : Int32} {d' : Nat} {Q' : Int32 → Hp → Prop} (hdd : d' < d) (hC : CI d' 182 [.ref 84, .int v1, .int 4] h Q') (kk : ∀ x h', Q' x h' → G X d 233 61 [some (.ref 84), none, none] [.int x] h') : G X d 233 55 [some (.ref 84), some (.int v1), none] [] h := by
  refine g_aload_n d_233_55 rfl rfl ?_
  refine g_iload_n d_233_56 rfl rfl ?_
  refine g_iconst (v := 4) d_233_57 (by decide) ?_
  exact g_callVI (mj := 182) 9 [.int v1, .int 4] [] d_233_58 wd_402 mo_182 mc_182 mv_182 rfl rfl rfl (Nat.le_of_ble_eq_true rfl) rfl hdd hC (fun x h' q => g_mask [true, false, false] (kk x h' q))

theorem k_233_61 {X : GX} {d : Nat} {h : Hp} {s0 : Int32} (kt : ¬ s0 = 1 → G X d 233 76 [some (.ref 84), none, none] [] h) (kf : s0 = 1 → G X d 233 65 [some (.ref 84), none, none] [] h) : G X d 233 61 [some (.ref 84), none, none] [.int s0] h := by
  refine g_iconst (v := 1) d_233_61 (by decide) ?_
  exact g_icmp_ne (tgt := 76) d_233_62 (by decide) kt kf

theorem k_233_65 {X : GX} {d : Nat} {h : Hp} {d' : Nat} {Q' : Hp → Prop} (b0 : IA 85 1) (hdd : d' < d) (hC : CV d' 231 [.ref 84] h Q') (kk : ∀ h', Q' h' → G X d 233 83 [none, none, some (.int ((h 85 (Int32.toNatClampNeg 1)) - 1))] [] h') : G X d 233 65 [some (.ref 84), none, none] [] h := by
  refine g_aload_n d_233_65 rfl rfl ?_
  refine g_getf (ci := 9) (k := 0) d_233_66 wd_355 (Nat.le_of_ble_eq_true rfl) rfl rfl ?_
  refine g_iconst (v := 1) d_233_69 (by decide) ?_
  refine g_iald d_233_70 b0 ?_
  refine g_iconst (v := 1) d_233_71 (by decide) ?_
  refine g_isub d_233_72 ?_
  refine g_goto (tgt := 78) d_233_73 (by decide) ?_
  refine g_istore_n d_233_78 rfl (Nat.le_of_ble_eq_true rfl) rfl ?_
  refine g_aload_n d_233_79 rfl rfl ?_
  exact g_callVV (mj := 231) 9 [] [] d_233_80 wd_479 mo_231 mc_231 mv_231 rfl rfl rfl (Nat.le_of_ble_eq_true rfl) rfl hdd hC (fun h' q => g_mask [false, false, true] (kk h' q))

theorem k_233_76 {X : GX} {d : Nat} {h : Hp} {d' : Nat} {Q' : Hp → Prop} (hdd : d' < d) (hC : CV d' 231 [.ref 84] h Q') (kk : ∀ h', Q' h' → G X d 233 83 [none, none, some (.int ((-3)))] [] h') : G X d 233 76 [some (.ref 84), none, none] [] h := by
  refine g_bipush (v := (-3)) d_233_76 (by decide) ?_
  refine g_istore_n d_233_78 rfl (Nat.le_of_ble_eq_true rfl) rfl ?_
  refine g_aload_n d_233_79 rfl rfl ?_
  exact g_callVV (mj := 231) 9 [] [] d_233_80 wd_479 mo_231 mc_231 mv_231 rfl rfl rfl (Nat.le_of_ble_eq_true rfl) rfl hdd hC (fun h' q => g_mask [false, false, true] (kk h' q))

theorem k_233_83 {X : GX} {d : Nat} {h : Hp} {v2 : Int32} (hq : RtX X (some (.int v2)) h) : G X d 233 83 [none, none, some (.int v2)] [] h := by
  refine g_iload_n d_233_83 rfl rfl ?_
  exact g_reti d_233_84 rfl hq

/-! 234 PlayedTruthModel.prettyFor(I)I -/
theorem k_234_0 {X : GX} {d : Nat} {h : Hp} {v1 : Int32} {d' : Nat} {Q' : Int32 → Hp → Prop} (hdd : d' < d) (hC : CI d' 180 [.ref 84, .int v1] h Q') (kk : ∀ x h', Q' x h' → G X d 234 5 [some (.ref 84), some (.int v1)] [.int x] h') : G X d 234 0 [some (.ref 84), some (.int v1)] [] h := by
  refine g_aload_n d_234_0 rfl rfl ?_
  refine g_iload_n d_234_1 rfl rfl ?_
  exact g_callVI (mj := 180) 9 [.int v1] [] d_234_2 wd_400 mo_180 mc_180 mv_180 rfl rfl rfl (Nat.le_of_ble_eq_true rfl) rfl hdd hC kk

theorem k_234_5 {X : GX} {d : Nat} {h : Hp} {v1 : Int32} {s0 : Int32} (kt : s0 = 0 → G X d 234 19 [none, none] [] h) (kf : ¬ s0 = 0 → G X d 234 8 [some (.ref 84), some (.int v1)] [] h) : G X d 234 5 [some (.ref 84), some (.int v1)] [.int s0] h := by
  exact g_if_eq (tgt := 19) d_234_5 (by decide) (fun q => g_mask [false, false] (kt q)) kf

theorem k_234_8 {X : GX} {d : Nat} {h : Hp} {v1 : Int32} {d' : Nat} {Q' : Int32 → Hp → Prop} (hdd : d' < d) (hC : CI d' 235 [.ref 84, .int v1, .int 2, .int 9] h Q') (kk : ∀ x h', Q' x h' → G X d 234 16 [none, none] [.int x] h') : G X d 234 8 [some (.ref 84), some (.int v1)] [] h := by
  refine g_aload_n d_234_8 rfl rfl ?_
  refine g_iload_n d_234_9 rfl rfl ?_
  refine g_iconst (v := 2) d_234_10 (by decide) ?_
  refine g_bipush (v := 9) d_234_11 (by decide) ?_
  exact g_callVI (mj := 235) 9 [.int v1, .int 2, .int 9] [] d_234_13 wd_483 mo_235 mc_235 mv_235 rfl rfl rfl (Nat.le_of_ble_eq_true rfl) rfl hdd hC (fun x h' q => g_mask [false, false] (kk x h' q))

theorem k_234_16 {X : GX} {d : Nat} {h : Hp} {s0 : Int32} (hq : RtX X (some (.int s0)) h) : G X d 234 16 [none, none] [.int s0] h := by
  refine g_goto (tgt := 20) d_234_16 (by decide) ?_
  exact g_reti d_234_20 rfl hq

theorem k_234_19 {X : GX} {d : Nat} {h : Hp} (hq : RtX X (some (.int ((-1)))) h) : G X d 234 19 [none, none] [] h := by
  refine g_iconst (v := (-1)) d_234_19 (by decide) ?_
  exact g_reti d_234_20 rfl hq

/-! 235 PlayedTruthModel.bestOf(III)I -/
theorem k_235_0 {X : GX} {d : Nat} {h : Hp} {v1 : Int32} {v2 : Int32} {v3 : Int32} {d' : Nat} {Q' : Hp → Prop} (hdd : d' < d) (hC : CV d' 229 [.ref 84] h Q') (kk : ∀ h', Q' h' → G X d 235 4 [some (.ref 84), some (.int v1), some (.int v2), some (.int v3), none, none, none, none] [] h') : G X d 235 0 [some (.ref 84), some (.int v1), some (.int v2), some (.int v3), none, none, none, none] [] h := by
  refine g_aload_n d_235_0 rfl rfl ?_
  exact g_callVV (mj := 229) 9 [] [] d_235_1 wd_477 mo_229 mc_229 mv_229 rfl rfl rfl (Nat.le_of_ble_eq_true rfl) rfl hdd hC kk

theorem k_235_4 {X : GX} {d : Nat} {h : Hp} {v1 : Int32} {v2 : Int32} {v3 : Int32} (kk : G X d 235 13 [some (.ref 84), some (.int v1), some (.int v2), some (.int v3), some (.int 0), some (.int ((-1))), some (.int 0), none] [] h) : G X d 235 4 [some (.ref 84), some (.int v1), some (.int v2), some (.int v3), none, none, none, none] [] h := by
  refine g_iconst (v := 0) d_235_4 (by decide) ?_
  refine g_istore d_235_5 (Nat.le_of_ble_eq_true rfl) rfl ?_
  refine g_iconst (v := (-1)) d_235_7 (by decide) ?_
  refine g_istore d_235_8 (Nat.le_of_ble_eq_true rfl) rfl ?_
  refine g_iconst (v := 0) d_235_10 (by decide) ?_
  refine g_istore d_235_11 (Nat.le_of_ble_eq_true rfl) rfl ?_
  exact kk

theorem k_235_13 {X : GX} {d : Nat} {h : Hp} {v1 : Int32} {v2 : Int32} {v3 : Int32} {v4 : Int32} {v5 : Int32} {v6 : Int32} (kt : v3 < v6 → G X d 235 60 [some (.ref 84), none, none, none, some (.int v4), none, none, none] [] h) (kf : ¬ v3 < v6 → G X d 235 19 [some (.ref 84), some (.int v1), some (.int v2), some (.int v3), some (.int v4), some (.int v5), some (.int v6), none] [] h) : G X d 235 13 [some (.ref 84), some (.int v1), some (.int v2), some (.int v3), some (.int v4), some (.int v5), some (.int v6), none] [] h := by
  refine g_iload d_235_13 rfl ?_
  refine g_iload_n d_235_15 rfl rfl ?_
  exact g_icmp_gt (tgt := 60) d_235_16 (by decide) (fun q => g_mask [true, false, false, false, true, false, false, false] (kt q)) kf

theorem k_235_19 {X : GX} {d : Nat} {h : Hp} {v1 : Int32} {v2 : Int32} {v3 : Int32} {v4 : Int32} {v5 : Int32} {v6 : Int32} {d' : Nat} {Q' : Hp → Prop} (hdd : d' < d) (hC : CV d' 178 [.ref 84, .int v1, .int v2, .int v6] h Q') (kk : ∀ h', Q' h' → G X d 235 27 [some (.ref 84), some (.int v1), some (.int v2), some (.int v3), some (.int v4), some (.int v5), some (.int v6), none] [] h') : G X d 235 19 [some (.ref 84), some (.int v1), some (.int v2), some (.int v3), some (.int v4), some (.int v5), some (.int v6), none] [] h := by
  refine g_aload_n d_235_19 rfl rfl ?_
  refine g_iload_n d_235_20 rfl rfl ?_
  refine g_iload_n d_235_21 rfl rfl ?_
  refine g_iload d_235_22 rfl ?_
  exact g_callVV (mj := 178) 9 [.int v1, .int v2, .int v6] [] d_235_24 wd_398 mo_178 mc_178 mv_178 rfl rfl rfl (Nat.le_of_ble_eq_true rfl) rfl hdd hC kk

theorem k_235_27 {X : GX} {d : Nat} {h : Hp} {v1 : Int32} {v2 : Int32} {v3 : Int32} {v4 : Int32} {v5 : Int32} {v6 : Int32} {d' : Nat} {Q' : Int32 → Hp → Prop} (hdd : d' < d) (hC : CI d' 230 [.ref 84, .int 16] h Q') (kk : ∀ x h', Q' x h' → G X d 235 33 [some (.ref 84), some (.int v1), some (.int v2), some (.int v3), some (.int v4), some (.int v5), some (.int v6), none] [.int x] h') : G X d 235 27 [some (.ref 84), some (.int v1), some (.int v2), some (.int v3), some (.int v4), some (.int v5), some (.int v6), none] [] h := by
  refine g_aload_n d_235_27 rfl rfl ?_
  refine g_bipush (v := 16) d_235_28 (by decide) ?_
  exact g_callVI (mj := 230) 9 [.int 16] [] d_235_30 wd_478 mo_230 mc_230 mv_230 rfl rfl rfl (Nat.le_of_ble_eq_true rfl) rfl hdd hC kk

theorem k_235_33 {X : GX} {d : Nat} {h : Hp} {v1 : Int32} {v2 : Int32} {v3 : Int32} {v4 : Int32} {v5 : Int32} {v6 : Int32} {s0 : Int32} {d' : Nat} {Q' : Hp → Prop} (hdd : d' < d) (hC : CV d' 232 [.ref 84] h Q') (kk : ∀ h', Q' h' → G X d 235 39 [some (.ref 84), some (.int v1), some (.int v2), some (.int v3), some (.int v4), some (.int v5), some (.int v6), some (.int s0)] [] h') : G X d 235 33 [some (.ref 84), some (.int v1), some (.int v2), some (.int v3), some (.int v4), some (.int v5), some (.int v6), none] [.int s0] h := by
  refine g_istore d_235_33 (Nat.le_of_ble_eq_true rfl) rfl ?_
  refine g_aload_n d_235_35 rfl rfl ?_
  exact g_callVV (mj := 232) 9 [] [] d_235_36 wd_480 mo_232 mc_232 mv_232 rfl rfl rfl (Nat.le_of_ble_eq_true rfl) rfl hdd hC kk

theorem k_235_39 {X : GX} {d : Nat} {h : Hp} {v1 : Int32} {v2 : Int32} {v3 : Int32} {v4 : Int32} {v5 : Int32} {v6 : Int32} {v7 : Int32} (kt : v7 ≤ v5 → G X d 235 54 [some (.ref 84), some (.int v1), some (.int v2), some (.int v3), some (.int v4), some (.int v5), some (.int v6), none] [] h) (kf : ¬ v7 ≤ v5 → G X d 235 46 [some (.ref 84), some (.int v1), some (.int v2), some (.int v3), none, none, some (.int v6), some (.int v7)] [] h) : G X d 235 39 [some (.ref 84), some (.int v1), some (.int v2), some (.int v3), some (.int v4), some (.int v5), some (.int v6), some (.int v7)] [] h := by
  refine g_iload d_235_39 rfl ?_
  refine g_iload d_235_41 rfl ?_
  exact g_icmp_le (tgt := 54) d_235_43 (by decide) (fun q => g_mask [true, true, true, true, true, true, true, false] (kt q)) (fun q => g_mask [true, true, true, true, false, false, true, true] (kf q))

theorem k_235_46 {X : GX} {d : Nat} {h : Hp} {v1 : Int32} {v2 : Int32} {v3 : Int32} {v6 : Int32} {v7 : Int32} (kk : G X d 235 13 [some (.ref 84), some (.int v1), some (.int v2), some (.int v3), some (.int v6), some (.int v7), some (.int (v6 + 1)), none] [] h) : G X d 235 46 [some (.ref 84), some (.int v1), some (.int v2), some (.int v3), none, none, some (.int v6), some (.int v7)] [] h := by
  refine g_iload d_235_46 rfl ?_
  refine g_istore d_235_48 (Nat.le_of_ble_eq_true rfl) rfl ?_
  refine g_iload d_235_50 rfl ?_
  refine g_istore d_235_52 (Nat.le_of_ble_eq_true rfl) rfl ?_
  refine g_iinc (w := 1) d_235_54 rfl (by decide) (Nat.le_of_ble_eq_true rfl) rfl ?_
  refine g_goto (tgt := 13) d_235_57 (by decide) ?_
  exact g_mask [true, true, true, true, true, true, true, false] kk

theorem k_235_54 {X : GX} {d : Nat} {h : Hp} {v1 : Int32} {v2 : Int32} {v3 : Int32} {v4 : Int32} {v5 : Int32} {v6 : Int32} (kk : G X d 235 13 [some (.ref 84), some (.int v1), some (.int v2), some (.int v3), some (.int v4), some (.int v5), some (.int (v6 + 1)), none] [] h) : G X d 235 54 [some (.ref 84), some (.int v1), some (.int v2), some (.int v3), some (.int v4), some (.int v5), some (.int v6), none] [] h := by
  refine g_iinc (w := 1) d_235_54 rfl (by decide) (Nat.le_of_ble_eq_true rfl) rfl ?_
  refine g_goto (tgt := 13) d_235_57 (by decide) ?_
  exact kk

theorem k_235_60 {X : GX} {d : Nat} {h : Hp} {v4 : Int32} {d' : Nat} {Q' : Hp → Prop} (hdd : d' < d) (hC : CV d' 231 [.ref 84] h Q') (kk : ∀ h', Q' h' → G X d 235 64 [none, none, none, none, some (.int v4), none, none, none] [] h') : G X d 235 60 [some (.ref 84), none, none, none, some (.int v4), none, none, none] [] h := by
  refine g_aload_n d_235_60 rfl rfl ?_
  exact g_callVV (mj := 231) 9 [] [] d_235_61 wd_479 mo_231 mc_231 mv_231 rfl rfl rfl (Nat.le_of_ble_eq_true rfl) rfl hdd hC (fun h' q => g_mask [false, false, false, false, true, false, false, false] (kk h' q))

theorem k_235_64 {X : GX} {d : Nat} {h : Hp} {v4 : Int32} (hq : RtX X (some (.int v4)) h) : G X d 235 64 [none, none, none, none, some (.int v4), none, none, none] [] h := by
  refine g_iload d_235_64 rfl ?_
  exact g_reti d_235_66 rfl hq

/-! 236 PlayedTruthModel.placeFor(I)I -/
theorem k_236_0 {X : GX} {d : Nat} {h : Hp} {v1 : Int32} {d' : Nat} {Q' : Int32 → Hp → Prop} (hdd : d' < d) (hC : CI d' 180 [.ref 84, .int v1] h Q') (kk : ∀ x h', Q' x h' → G X d 236 5 [some (.ref 84), some (.int v1)] [.int x] h') : G X d 236 0 [some (.ref 84), some (.int v1)] [] h := by
  refine g_aload_n d_236_0 rfl rfl ?_
  refine g_iload_n d_236_1 rfl rfl ?_
  exact g_callVI (mj := 180) 9 [.int v1] [] d_236_2 wd_400 mo_180 mc_180 mv_180 rfl rfl rfl (Nat.le_of_ble_eq_true rfl) rfl hdd hC kk

theorem k_236_5 {X : GX} {d : Nat} {h : Hp} {v1 : Int32} {s0 : Int32} (kt : s0 = 0 → G X d 236 18 [none, none] [] h) (kf : ¬ s0 = 0 → G X d 236 8 [some (.ref 84), some (.int v1)] [] h) : G X d 236 5 [some (.ref 84), some (.int v1)] [.int s0] h := by
  exact g_if_eq (tgt := 18) d_236_5 (by decide) (fun q => g_mask [false, false] (kt q)) kf

theorem k_236_8 {X : GX} {d : Nat} {h : Hp} {v1 : Int32} {d' : Nat} {Q' : Int32 → Hp → Prop} (hdd : d' < d) (hC : CI d' 235 [.ref 84, .int v1, .int 3, .int 5] h Q') (kk : ∀ x h', Q' x h' → G X d 236 15 [none, none] [.int x] h') : G X d 236 8 [some (.ref 84), some (.int v1)] [] h := by
  refine g_aload_n d_236_8 rfl rfl ?_
  refine g_iload_n d_236_9 rfl rfl ?_
  refine g_iconst (v := 3) d_236_10 (by decide) ?_
  refine g_iconst (v := 5) d_236_11 (by decide) ?_
  exact g_callVI (mj := 235) 9 [.int v1, .int 3, .int 5] [] d_236_12 wd_483 mo_235 mc_235 mv_235 rfl rfl rfl (Nat.le_of_ble_eq_true rfl) rfl hdd hC (fun x h' q => g_mask [false, false] (kk x h' q))

theorem k_236_15 {X : GX} {d : Nat} {h : Hp} {s0 : Int32} (hq : RtX X (some (.int s0)) h) : G X d 236 15 [none, none] [.int s0] h := by
  refine g_goto (tgt := 19) d_236_15 (by decide) ?_
  exact g_reti d_236_19 rfl hq

theorem k_236_18 {X : GX} {d : Nat} {h : Hp} (hq : RtX X (some (.int ((-1)))) h) : G X d 236 18 [none, none] [] h := by
  refine g_iconst (v := (-1)) d_236_18 (by decide) ?_
  exact g_reti d_236_19 rfl hq

/-! 237 PlayedTruthModel.truth(I)I -/
theorem k_237_0 {X : GX} {d : Nat} {h : Hp} {v1 : Int32} {d' : Nat} {Q' : Int32 → Hp → Prop} (hdd : d' < d) (hC : CI d' 177 [.long (Int32.toInt64 v1), .long 0, .long 594] h Q') (kk : ∀ x h', Q' x h' → G X d 237 9 [some (.ref 84), some (.int v1), none] [.int x] h') : G X d 237 0 [some (.ref 84), some (.int v1), none] [] h := by
  refine g_iload_n d_237_0 rfl rfl ?_
  refine g_i2l d_237_1 ?_
  refine g_lconst (v := 0) d_237_2 (by decide) ?_
  refine g_ldc2_w (v := 594) d_237_3 wd_486 ?_
  exact g_callSI (mj := 177) [.long (Int32.toInt64 v1), .long 0, .long 594] [] d_237_6 wd_395 mo_177 mc_177 mv_177 rfl rfl (Nat.le_of_ble_eq_true rfl)  hdd hC kk

theorem k_237_9 {X : GX} {d : Nat} {h : Hp} {v1 : Int32} {s0 : Int32} (kt : ¬ s0 = 0 → G X d 237 14 [some (.ref 84), some (.int v1), none] [] h) (kf : s0 = 0 → G X d 237 12 [none, none, none] [] h) : G X d 237 9 [some (.ref 84), some (.int v1), none] [.int s0] h := by
  exact g_if_ne (tgt := 14) d_237_9 (by decide) kt (fun q => g_mask [false, false, false] (kf q))

theorem k_237_12 {X : GX} {d : Nat} {h : Hp} (hq : RtX X (some (.int ((-1)))) h) : G X d 237 12 [none, none, none] [] h := by
  refine g_iconst (v := (-1)) d_237_12 (by decide) ?_
  exact g_reti d_237_13 rfl hq

theorem k_237_14 {X : GX} {d : Nat} {h : Hp} {v1 : Int32} {d' : Nat} {Q' : Hp → Prop} (hdd : d' < d) (hC : CV d' 229 [.ref 84] h Q') (kk : ∀ h', Q' h' → G X d 237 18 [some (.ref 84), some (.int v1), none] [] h') : G X d 237 14 [some (.ref 84), some (.int v1), none] [] h := by
  refine g_aload_n d_237_14 rfl rfl ?_
  exact g_callVV (mj := 229) 9 [] [] d_237_15 wd_477 mo_229 mc_229 mv_229 rfl rfl rfl (Nat.le_of_ble_eq_true rfl) rfl hdd hC kk

theorem k_237_18 {X : GX} {d : Nat} {h : Hp} {v1 : Int32} {d' : Nat} {Q' : Int32 → Hp → Prop} (hdd : d' < d) (hC : CI d' 205 [.ref 84] h Q') (kk : ∀ x h', Q' x h' → G X d 237 22 [some (.ref 84), some (.int v1), none] [.int x] h') : G X d 237 18 [some (.ref 84), some (.int v1), none] [] h := by
  refine g_aload_n d_237_18 rfl rfl ?_
  exact g_callVI (mj := 205) 9 [] [] d_237_19 wd_427 mo_205 mc_205 mv_205 rfl rfl rfl (Nat.le_of_ble_eq_true rfl) rfl hdd hC kk

theorem k_237_22 {X : GX} {d : Nat} {h : Hp} {v1 : Int32} {s0 : Int32} (kt : ¬ s0 = 0 → G X d 237 45 [some (.ref 84), some (.int v1), none] [] h) (kf : s0 = 0 → G X d 237 25 [some (.ref 84), some (.int v1), none] [] h) : G X d 237 22 [some (.ref 84), some (.int v1), none] [.int s0] h := by
  exact g_if_ne (tgt := 45) d_237_22 (by decide) kt kf

theorem k_237_25 {X : GX} {d : Nat} {h : Hp} {v1 : Int32} {d' : Nat} {Q' : Int32 → Hp → Prop} (hdd : d' < d) (hC : CI d' 207 [.ref 84] h Q') (kk : ∀ x h', Q' x h' → G X d 237 29 [some (.ref 84), some (.int v1), none] [.int x] h') : G X d 237 25 [some (.ref 84), some (.int v1), none] [] h := by
  refine g_aload_n d_237_25 rfl rfl ?_
  exact g_callVI (mj := 207) 9 [] [] d_237_26 wd_429 mo_207 mc_207 mv_207 rfl rfl rfl (Nat.le_of_ble_eq_true rfl) rfl hdd hC kk

theorem k_237_29 {X : GX} {d : Nat} {h : Hp} {v1 : Int32} {s0 : Int32} (kt : v1 ≤ s0 → G X d 237 45 [some (.ref 84), some (.int v1), none] [] h) (kf : ¬ v1 ≤ s0 → G X d 237 33 [some (.ref 84), some (.int v1), none] [] h) : G X d 237 29 [some (.ref 84), some (.int v1), none] [.int s0] h := by
  refine g_iload_n d_237_29 rfl rfl ?_
  exact g_icmp_ge (tgt := 45) d_237_30 (by decide) kt kf

theorem k_237_33 {X : GX} {d : Nat} {h : Hp} {v1 : Int32} {d' : Nat} {Q' : Int32 → Hp → Prop} (hdd : d' < d) (hC : CI d' 225 [.ref 84] h Q') (kk : ∀ x h', Q' x h' → G X d 237 38 [some (.ref 84), some (.int v1), none] [.int x, .ref 84] h') : G X d 237 33 [some (.ref 84), some (.int v1), none] [] h := by
  refine g_aload_n d_237_33 rfl rfl ?_
  refine g_aload_n d_237_34 rfl rfl ?_
  exact g_callVI (mj := 225) 9 [] [.ref 84] d_237_35 wd_473 mo_225 mc_225 mv_225 rfl rfl rfl (Nat.le_of_ble_eq_true rfl) rfl hdd hC kk

theorem k_237_38 {X : GX} {d : Nat} {h : Hp} {v1 : Int32} {s0 : Int32} {s1 : Nat} {d' : Nat} {Q' : Int32 → Hp → Prop} (o0 : sh s1 = (1, 9)) (hdd : d' < d) (hC : CI d' 226 [.ref s1, .int s0] h Q') (kk : ∀ x h', Q' x h' → G X d 237 41 [some (.ref 84), some (.int v1), none] [.int x] h') : G X d 237 38 [some (.ref 84), some (.int v1), none] [.int s0, .ref s1] h := by
  exact g_callVI (mj := 226) 9 [.int s0] [] d_237_38 wd_474 mo_226 mc_226 mv_226 rfl rfl rfl (Nat.le_of_ble_eq_true rfl) o0 hdd hC kk

theorem k_237_41 {X : GX} {d : Nat} {h : Hp} {v1 : Int32} {s0 : Int32} (kk : G X d 237 18 [some (.ref 84), some (.int v1), none] [] h) : G X d 237 41 [some (.ref 84), some (.int v1), none] [.int s0] h := by
  refine g_pop d_237_41 rfl ?_
  refine g_goto (tgt := 18) d_237_42 (by decide) ?_
  exact kk

theorem k_237_45 {X : GX} {d : Nat} {h : Hp} {v1 : Int32} {d' : Nat} {Q' : Int32 → Hp → Prop} (hdd : d' < d) (hC : CI d' 207 [.ref 84] h Q') (kk : ∀ x h', Q' x h' → G X d 237 49 [some (.ref 84), some (.int v1), none] [.int x] h') : G X d 237 45 [some (.ref 84), some (.int v1), none] [] h := by
  refine g_aload_n d_237_45 rfl rfl ?_
  exact g_callVI (mj := 207) 9 [] [] d_237_46 wd_429 mo_207 mc_207 mv_207 rfl rfl rfl (Nat.le_of_ble_eq_true rfl) rfl hdd hC kk

theorem k_237_49 {X : GX} {d : Nat} {h : Hp} {v1 : Int32} {s0 : Int32} (kt : s0 < v1 → G X d 237 62 [some (.ref 84), none, none] [] h) (kf : ¬ s0 < v1 → G X d 237 53 [some (.ref 84), none, none] [] h) : G X d 237 49 [some (.ref 84), some (.int v1), none] [.int s0] h := by
  refine g_iload_n d_237_49 rfl rfl ?_
  exact g_icmp_lt (tgt := 62) d_237_50 (by decide) (fun q => g_mask [true, false, false] (kt q)) (fun q => g_mask [true, false, false] (kf q))

theorem k_237_53 {X : GX} {d : Nat} {h : Hp} {d' : Nat} {Q' : Hp → Prop} (b0 : IA 85 1) (hdd : d' < d) (hC : CV d' 231 [.ref 84] h Q') (kk : ∀ h', Q' h' → G X d 237 69 [none, none, some (.int (h 85 (Int32.toNatClampNeg 1)))] [] h') : G X d 237 53 [some (.ref 84), none, none] [] h := by
  refine g_aload_n d_237_53 rfl rfl ?_
  refine g_getf (ci := 9) (k := 0) d_237_54 wd_355 (Nat.le_of_ble_eq_true rfl) rfl rfl ?_
  refine g_iconst (v := 1) d_237_57 (by decide) ?_
  refine g_iald d_237_58 b0 ?_
  refine g_goto (tgt := 64) d_237_59 (by decide) ?_
  refine g_istore_n d_237_64 rfl (Nat.le_of_ble_eq_true rfl) rfl ?_
  refine g_aload_n d_237_65 rfl rfl ?_
  exact g_callVV (mj := 231) 9 [] [] d_237_66 wd_479 mo_231 mc_231 mv_231 rfl rfl rfl (Nat.le_of_ble_eq_true rfl) rfl hdd hC (fun h' q => g_mask [false, false, true] (kk h' q))

theorem k_237_62 {X : GX} {d : Nat} {h : Hp} {d' : Nat} {Q' : Hp → Prop} (hdd : d' < d) (hC : CV d' 231 [.ref 84] h Q') (kk : ∀ h', Q' h' → G X d 237 69 [none, none, some (.int ((-3)))] [] h') : G X d 237 62 [some (.ref 84), none, none] [] h := by
  refine g_bipush (v := (-3)) d_237_62 (by decide) ?_
  refine g_istore_n d_237_64 rfl (Nat.le_of_ble_eq_true rfl) rfl ?_
  refine g_aload_n d_237_65 rfl rfl ?_
  exact g_callVV (mj := 231) 9 [] [] d_237_66 wd_479 mo_231 mc_231 mv_231 rfl rfl rfl (Nat.le_of_ble_eq_true rfl) rfl hdd hC (fun h' q => g_mask [false, false, true] (kk h' q))

theorem k_237_69 {X : GX} {d : Nat} {h : Hp} {v2 : Int32} (hq : RtX X (some (.int v2)) h) : G X d 237 69 [none, none, some (.int v2)] [] h := by
  refine g_iload_n d_237_69 rfl rfl ?_
  exact g_reti d_237_70 rfl hq

/-! 238 PlayedTruthModel.props(I)I -/
theorem k_238_0 {X : GX} {d : Nat} {h : Hp} {v1 : Int32} {d' : Nat} {Q' : Int32 → Hp → Prop} (hdd : d' < d) (hC : CI d' 180 [.ref 84, .int v1] h Q') (kk : ∀ x h', Q' x h' → G X d 238 5 [some (.ref 84), some (.int v1), none, none] [.int x] h') : G X d 238 0 [some (.ref 84), some (.int v1), none, none] [] h := by
  refine g_aload_n d_238_0 rfl rfl ?_
  refine g_iload_n d_238_1 rfl rfl ?_
  exact g_callVI (mj := 180) 9 [.int v1] [] d_238_2 wd_400 mo_180 mc_180 mv_180 rfl rfl rfl (Nat.le_of_ble_eq_true rfl) rfl hdd hC kk

theorem k_238_5 {X : GX} {d : Nat} {h : Hp} {v1 : Int32} {s0 : Int32} (kt : ¬ s0 = 0 → G X d 238 10 [some (.ref 84), some (.int v1), none, none] [] h) (kf : s0 = 0 → G X d 238 8 [none, none, none, none] [] h) : G X d 238 5 [some (.ref 84), some (.int v1), none, none] [.int s0] h := by
  exact g_if_ne (tgt := 10) d_238_5 (by decide) kt (fun q => g_mask [false, false, false, false] (kf q))

theorem k_238_8 {X : GX} {d : Nat} {h : Hp} (hq : RtX X (some (.int ((-1)))) h) : G X d 238 8 [none, none, none, none] [] h := by
  refine g_iconst (v := (-1)) d_238_8 (by decide) ?_
  exact g_reti d_238_9 rfl hq

theorem k_238_10 {X : GX} {d : Nat} {h : Hp} {v1 : Int32} {d' : Nat} {Q' : Int32 → Hp → Prop} (hdd : d' < d) (hC : CI d' 182 [.ref 84, .int v1, .int 3] h Q') (kk : ∀ x h', Q' x h' → G X d 238 20 [some (.ref 84), none, some (.int (1 <<< (v1 &&& 31))), none] [.int x] h') : G X d 238 10 [some (.ref 84), some (.int v1), none, none] [] h := by
  refine g_iconst (v := 1) d_238_10 (by decide) ?_
  refine g_iload_n d_238_11 rfl rfl ?_
  refine g_ishl d_238_12 ?_
  refine g_istore_n d_238_13 rfl (Nat.le_of_ble_eq_true rfl) rfl ?_
  refine g_aload_n d_238_14 rfl rfl ?_
  refine g_iload_n d_238_15 rfl rfl ?_
  refine g_iconst (v := 3) d_238_16 (by decide) ?_
  exact g_callVI (mj := 182) 9 [.int v1, .int 3] [] d_238_17 wd_402 mo_182 mc_182 mv_182 rfl rfl rfl (Nat.le_of_ble_eq_true rfl) rfl hdd hC (fun x h' q => g_mask [true, false, true, false] (kk x h' q))

theorem k_238_20 {X : GX} {d : Nat} {h : Hp} {v2 : Int32} {s0 : Int32} (kk : G X d 238 23 [some (.ref 84), none, some (.int v2), some (.int (s0 - 1))] [] h) : G X d 238 20 [some (.ref 84), none, some (.int v2), none] [.int s0] h := by
  refine g_iconst (v := 1) d_238_20 (by decide) ?_
  refine g_isub d_238_21 ?_
  refine g_istore_n d_238_22 rfl (Nat.le_of_ble_eq_true rfl) rfl ?_
  exact kk

theorem k_238_23 {X : GX} {d : Nat} {h : Hp} {v2 : Int32} {v3 : Int32} (kt : v3 < 0 → G X d 238 49 [none, none, some (.int v2), none] [] h) (kf : ¬ v3 < 0 → G X d 238 27 [some (.ref 84), none, some (.int v2), some (.int v3)] [] h) : G X d 238 23 [some (.ref 84), none, some (.int v2), some (.int v3)] [] h := by
  refine g_iload_n d_238_23 rfl rfl ?_
  exact g_if_lt (tgt := 49) d_238_24 (by decide) (fun q => g_mask [false, false, true, false] (kt q)) kf

theorem k_238_27 {X : GX} {d : Nat} {h : Hp} {v2 : Int32} {v3 : Int32} {d' : Nat} {Q' : Int32 → Hp → Prop} (hdd : d' < d) (hC : CI d' 239 [.ref 84, .int v3] h Q') (kk : ∀ x h', Q' x h' → G X d 238 32 [some (.ref 84), none, some (.int v2), some (.int v3)] [.int x] h') : G X d 238 27 [some (.ref 84), none, some (.int v2), some (.int v3)] [] h := by
  refine g_aload_n d_238_27 rfl rfl ?_
  refine g_iload_n d_238_28 rfl rfl ?_
  exact g_callVI (mj := 239) 9 [.int v3] [] d_238_29 wd_488 mo_239 mc_239 mv_239 rfl rfl rfl (Nat.le_of_ble_eq_true rfl) rfl hdd hC kk

theorem k_238_32 {X : GX} {d : Nat} {h : Hp} {v2 : Int32} {v3 : Int32} {s0 : Int32} (kt : s0 = 0 → G X d 238 49 [none, none, some (.int v2), none] [] h) (kf : ¬ s0 = 0 → G X d 238 35 [some (.ref 84), none, some (.int v2), some (.int v3)] [] h) : G X d 238 32 [some (.ref 84), none, some (.int v2), some (.int v3)] [.int s0] h := by
  exact g_if_eq (tgt := 49) d_238_32 (by decide) (fun q => g_mask [false, false, true, false] (kt q)) kf

theorem k_238_35 {X : GX} {d : Nat} {h : Hp} {v2 : Int32} {v3 : Int32} {d' : Nat} {Q' : Int32 → Hp → Prop} (hdd : d' < d) (hC : CI d' 239 [.ref 84, .int v3] h Q') (kk : ∀ x h', Q' x h' → G X d 238 41 [some (.ref 84), none, none, some (.int v3)] [.int x, .int v2] h') : G X d 238 35 [some (.ref 84), none, some (.int v2), some (.int v3)] [] h := by
  refine g_iload_n d_238_35 rfl rfl ?_
  refine g_aload_n d_238_36 rfl rfl ?_
  refine g_iload_n d_238_37 rfl rfl ?_
  exact g_callVI (mj := 239) 9 [.int v3] [.int v2] d_238_38 wd_488 mo_239 mc_239 mv_239 rfl rfl rfl (Nat.le_of_ble_eq_true rfl) rfl hdd hC (fun x h' q => g_mask [true, false, false, true] (kk x h' q))

theorem k_238_41 {X : GX} {d : Nat} {h : Hp} {v3 : Int32} {s0 : Int32} {s1 : Int32} (kk : G X d 238 23 [some (.ref 84), none, some (.int (s1 ||| s0)), some (.int (v3 + (-1)))] [] h) : G X d 238 41 [some (.ref 84), none, none, some (.int v3)] [.int s0, .int s1] h := by
  refine g_ior d_238_41 ?_
  refine g_istore_n d_238_42 rfl (Nat.le_of_ble_eq_true rfl) rfl ?_
  refine g_iinc (w := (-1)) d_238_43 rfl (by decide) (Nat.le_of_ble_eq_true rfl) rfl ?_
  refine g_goto (tgt := 23) d_238_46 (by decide) ?_
  exact kk

theorem k_238_49 {X : GX} {d : Nat} {h : Hp} {v2 : Int32} (hq : RtX X (some (.int v2)) h) : G X d 238 49 [none, none, some (.int v2), none] [] h := by
  refine g_iload_n d_238_49 rfl rfl ?_
  exact g_reti d_238_50 rfl hq

/-! 239 PlayedTruthModel.scenesAt(I)I -/
theorem k_239_0 {X : GX} {d : Nat} {h : Hp} {v1 : Int32} (kk : G X d 239 4 [some (.ref 84), some (.int v1), some (.int 0), some (.int 0)] [] h) : G X d 239 0 [some (.ref 84), some (.int v1), none, none] [] h := by
  refine g_iconst (v := 0) d_239_0 (by decide) ?_
  refine g_istore_n d_239_1 rfl (Nat.le_of_ble_eq_true rfl) rfl ?_
  refine g_iconst (v := 0) d_239_2 (by decide) ?_
  refine g_istore_n d_239_3 rfl (Nat.le_of_ble_eq_true rfl) rfl ?_
  exact kk

theorem k_239_4 {X : GX} {d : Nat} {h : Hp} {v1 : Int32} {v2 : Int32} {v3 : Int32} (b0 : IA 85 0) (kt : (h 85 (Int32.toNatClampNeg 0)) ≤ v3 → G X d 239 40 [none, none, some (.int v2), none] [] h) (kf : ¬ (h 85 (Int32.toNatClampNeg 0)) ≤ v3 → G X d 239 14 [some (.ref 84), some (.int v1), some (.int v2), some (.int v3)] [] h) : G X d 239 4 [some (.ref 84), some (.int v1), some (.int v2), some (.int v3)] [] h := by
  refine g_iload_n d_239_4 rfl rfl ?_
  refine g_aload_n d_239_5 rfl rfl ?_
  refine g_getf (ci := 9) (k := 0) d_239_6 wd_355 (Nat.le_of_ble_eq_true rfl) rfl rfl ?_
  refine g_iconst (v := 0) d_239_9 (by decide) ?_
  refine g_iald d_239_10 b0 ?_
  exact g_icmp_ge (tgt := 40) d_239_11 (by decide) (fun q => g_mask [false, false, true, false] (kt q)) kf

theorem k_239_14 {X : GX} {d : Nat} {h : Hp} {v1 : Int32} {v2 : Int32} {v3 : Int32} {d' : Nat} {Q' : Int32 → Hp → Prop} (hdd : d' < d) (hC : CI d' 182 [.ref 84, .int v3, .int 3] h Q') (kk : ∀ x h', Q' x h' → G X d 239 21 [some (.ref 84), some (.int v1), none, some (.int v3)] [.int x, .int v2] h') : G X d 239 14 [some (.ref 84), some (.int v1), some (.int v2), some (.int v3)] [] h := by
  refine g_iload_n d_239_14 rfl rfl ?_
  refine g_aload_n d_239_15 rfl rfl ?_
  refine g_iload_n d_239_16 rfl rfl ?_
  refine g_iconst (v := 3) d_239_17 (by decide) ?_
  exact g_callVI (mj := 182) 9 [.int v3, .int 3] [.int v2] d_239_18 wd_402 mo_182 mc_182 mv_182 rfl rfl rfl (Nat.le_of_ble_eq_true rfl) rfl hdd hC (fun x h' q => g_mask [true, true, false, true] (kk x h' q))

theorem k_239_21 {X : GX} {d : Nat} {h : Hp} {v1 : Int32} {v3 : Int32} {s0 : Int32} {s1 : Int32} (kt : ¬ s0 = v1 → G X d 239 31 [some (.ref 84), some (.int v1), none, some (.int v3)] [.int s1] h) (kf : s0 = v1 → G X d 239 25 [some (.ref 84), some (.int v1), none, some (.int v3)] [.int s1] h) : G X d 239 21 [some (.ref 84), some (.int v1), none, some (.int v3)] [.int s0, .int s1] h := by
  refine g_iload_n d_239_21 rfl rfl ?_
  exact g_icmp_ne (tgt := 31) d_239_22 (by decide) kt kf

theorem k_239_25 {X : GX} {d : Nat} {h : Hp} {v1 : Int32} {v3 : Int32} {s0 : Int32} (kk : G X d 239 4 [some (.ref 84), some (.int v1), some (.int (s0 ||| (1 <<< (v3 &&& 31)))), some (.int (v3 + 1))] [] h) : G X d 239 25 [some (.ref 84), some (.int v1), none, some (.int v3)] [.int s0] h := by
  refine g_iconst (v := 1) d_239_25 (by decide) ?_
  refine g_iload_n d_239_26 rfl rfl ?_
  refine g_ishl d_239_27 ?_
  refine g_goto (tgt := 32) d_239_28 (by decide) ?_
  refine g_ior d_239_32 ?_
  refine g_istore_n d_239_33 rfl (Nat.le_of_ble_eq_true rfl) rfl ?_
  refine g_iinc (w := 1) d_239_34 rfl (by decide) (Nat.le_of_ble_eq_true rfl) rfl ?_
  refine g_goto (tgt := 4) d_239_37 (by decide) ?_
  exact kk

theorem k_239_31 {X : GX} {d : Nat} {h : Hp} {v1 : Int32} {v3 : Int32} {s0 : Int32} (kk : G X d 239 4 [some (.ref 84), some (.int v1), some (.int (s0 ||| 0)), some (.int (v3 + 1))] [] h) : G X d 239 31 [some (.ref 84), some (.int v1), none, some (.int v3)] [.int s0] h := by
  refine g_iconst (v := 0) d_239_31 (by decide) ?_
  refine g_ior d_239_32 ?_
  refine g_istore_n d_239_33 rfl (Nat.le_of_ble_eq_true rfl) rfl ?_
  refine g_iinc (w := 1) d_239_34 rfl (by decide) (Nat.le_of_ble_eq_true rfl) rfl ?_
  refine g_goto (tgt := 4) d_239_37 (by decide) ?_
  exact kk

theorem k_239_40 {X : GX} {d : Nat} {h : Hp} {v2 : Int32} (hq : RtX X (some (.int v2)) h) : G X d 239 40 [none, none, some (.int v2), none] [] h := by
  refine g_iload_n d_239_40 rfl rfl ?_
  exact g_reti d_239_41 rfl hq

/-! 240 PlayedTruthModel.strands(I)I -/
theorem k_240_0 {X : GX} {d : Nat} {h : Hp} {v1 : Int32} {d' : Nat} {Q' : Int32 → Hp → Prop} (b0 : IA 85 0) (hdd : d' < d) (hC : CI d' 177 [.long (Int32.toInt64 v1), .long ((-1)), .long (Int32.toInt64 ((h 85 (Int32.toNatClampNeg 0)) - 1))] h Q') (kk : ∀ x h', Q' x h' → G X d 240 17 [some (.ref 84), some (.int v1), none, none, none] [.int x] h') : G X d 240 0 [some (.ref 84), some (.int v1), none, none, none] [] h := by
  refine g_iload_n d_240_0 rfl rfl ?_
  refine g_i2l d_240_1 ?_
  refine g_ldc2_w (v := (-1)) d_240_2 wd_438 ?_
  refine g_aload_n d_240_5 rfl rfl ?_
  refine g_getf (ci := 9) (k := 0) d_240_6 wd_355 (Nat.le_of_ble_eq_true rfl) rfl rfl ?_
  refine g_iconst (v := 0) d_240_9 (by decide) ?_
  refine g_iald d_240_10 b0 ?_
  refine g_iconst (v := 1) d_240_11 (by decide) ?_
  refine g_isub d_240_12 ?_
  refine g_i2l d_240_13 ?_
  exact g_callSI (mj := 177) [.long (Int32.toInt64 v1), .long ((-1)), .long (Int32.toInt64 ((h 85 (Int32.toNatClampNeg 0)) - 1))] [] d_240_14 wd_395 mo_177 mc_177 mv_177 rfl rfl (Nat.le_of_ble_eq_true rfl)  hdd hC kk

theorem k_240_17 {X : GX} {d : Nat} {h : Hp} {v1 : Int32} {s0 : Int32} (kt : ¬ s0 = 0 → G X d 240 22 [some (.ref 84), some (.int v1), none, none, none] [] h) (kf : s0 = 0 → G X d 240 20 [none, none, none, none, none] [] h) : G X d 240 17 [some (.ref 84), some (.int v1), none, none, none] [.int s0] h := by
  exact g_if_ne (tgt := 22) d_240_17 (by decide) kt (fun q => g_mask [false, false, false, false, false] (kf q))

theorem k_240_20 {X : GX} {d : Nat} {h : Hp} (hq : RtX X (some (.int ((-1)))) h) : G X d 240 20 [none, none, none, none, none] [] h := by
  refine g_iconst (v := (-1)) d_240_20 (by decide) ?_
  exact g_reti d_240_21 rfl hq

theorem k_240_22 {X : GX} {d : Nat} {h : Hp} {v1 : Int32} (kt : v1 < 0 → G X d 240 32 [some (.ref 84), none, none, none, none] [] h) (kf : ¬ v1 < 0 → G X d 240 26 [some (.ref 84), some (.int v1), none, none, none] [] h) : G X d 240 22 [some (.ref 84), some (.int v1), none, none, none] [] h := by
  refine g_iload_n d_240_22 rfl rfl ?_
  exact g_if_lt (tgt := 32) d_240_23 (by decide) (fun q => g_mask [true, false, false, false, false] (kt q)) kf

theorem k_240_26 {X : GX} {d : Nat} {h : Hp} {v1 : Int32} {d' : Nat} {Q' : Int32 → Hp → Prop} (hdd : d' < d) (hC : CI d' 241 [.ref 84, .int v1] h Q') (kk : ∀ x h', Q' x h' → G X d 240 31 [none, none, none, none, none] [.int x] h') : G X d 240 26 [some (.ref 84), some (.int v1), none, none, none] [] h := by
  refine g_aload_n d_240_26 rfl rfl ?_
  refine g_iload_n d_240_27 rfl rfl ?_
  exact g_callVI (mj := 241) 9 [.int v1] [] d_240_28 wd_490 mo_241 mc_241 mv_241 rfl rfl rfl (Nat.le_of_ble_eq_true rfl) rfl hdd hC (fun x h' q => g_mask [false, false, false, false, false] (kk x h' q))

theorem k_240_31 {X : GX} {d : Nat} {h : Hp} {s0 : Int32} (hq : RtX X (some (.int s0)) h) : G X d 240 31 [none, none, none, none, none] [.int s0] h := by
  exact g_reti d_240_31 rfl hq

theorem k_240_32 {X : GX} {d : Nat} {h : Hp} (kk : G X d 240 39 [some (.ref 84), none, some (.int 0), some (.int 0), some (.int 0)] [] h) : G X d 240 32 [some (.ref 84), none, none, none, none] [] h := by
  refine g_iconst (v := 0) d_240_32 (by decide) ?_
  refine g_istore_n d_240_33 rfl (Nat.le_of_ble_eq_true rfl) rfl ?_
  refine g_iconst (v := 0) d_240_34 (by decide) ?_
  refine g_istore_n d_240_35 rfl (Nat.le_of_ble_eq_true rfl) rfl ?_
  refine g_iconst (v := 0) d_240_36 (by decide) ?_
  refine g_istore d_240_37 (Nat.le_of_ble_eq_true rfl) rfl ?_
  exact kk

theorem k_240_39 {X : GX} {d : Nat} {h : Hp} {v2 : Int32} {v3 : Int32} {v4 : Int32} (b0 : IA 85 0) (kt : (h 85 (Int32.toNatClampNeg 0)) ≤ v4 → G X d 240 92 [none, none, none, some (.int v3), none] [] h) (kf : ¬ (h 85 (Int32.toNatClampNeg 0)) ≤ v4 → G X d 240 50 [some (.ref 84), none, some (.int v2), some (.int v3), some (.int v4)] [] h) : G X d 240 39 [some (.ref 84), none, some (.int v2), some (.int v3), some (.int v4)] [] h := by
  refine g_iload d_240_39 rfl ?_
  refine g_aload_n d_240_41 rfl rfl ?_
  refine g_getf (ci := 9) (k := 0) d_240_42 wd_355 (Nat.le_of_ble_eq_true rfl) rfl rfl ?_
  refine g_iconst (v := 0) d_240_45 (by decide) ?_
  refine g_iald d_240_46 b0 ?_
  exact g_icmp_ge (tgt := 92) d_240_47 (by decide) (fun q => g_mask [false, false, false, true, false] (kt q)) kf

theorem k_240_50 {X : GX} {d : Nat} {h : Hp} {v2 : Int32} {v3 : Int32} {v4 : Int32} {d' : Nat} {Q' : Int32 → Hp → Prop} (hdd : d' < d) (hC : CI d' 182 [.ref 84, .int v4, .int 4] h Q') (kk : ∀ x h', Q' x h' → G X d 240 58 [some (.ref 84), none, some (.int v2), none, some (.int v4)] [.int x, .int v3] h') : G X d 240 50 [some (.ref 84), none, some (.int v2), some (.int v3), some (.int v4)] [] h := by
  refine g_iload_n d_240_50 rfl rfl ?_
  refine g_aload_n d_240_51 rfl rfl ?_
  refine g_iload d_240_52 rfl ?_
  refine g_iconst (v := 4) d_240_54 (by decide) ?_
  exact g_callVI (mj := 182) 9 [.int v4, .int 4] [.int v3] d_240_55 wd_402 mo_182 mc_182 mv_182 rfl rfl rfl (Nat.le_of_ble_eq_true rfl) rfl hdd hC (fun x h' q => g_mask [true, false, true, false, true] (kk x h' q))

theorem k_240_58 {X : GX} {d : Nat} {h : Hp} {v2 : Int32} {v4 : Int32} {s0 : Int32} {s1 : Int32} (kt : ¬ s0 = 0 → G X d 240 74 [some (.ref 84), none, some (.int v2), none, some (.int v4)] [.int s1] h) (kf : s0 = 0 → G X d 240 61 [some (.ref 84), none, some (.int v2), none, some (.int v4)] [.int s1] h) : G X d 240 58 [some (.ref 84), none, some (.int v2), none, some (.int v4)] [.int s0, .int s1] h := by
  exact g_if_ne (tgt := 74) d_240_58 (by decide) kt kf

theorem k_240_61 {X : GX} {d : Nat} {h : Hp} {v2 : Int32} {v4 : Int32} {s0 : Int32} (kt : ¬ ((v2 >>> (v4 &&& 31)) &&& 1) = 0 → G X d 240 74 [some (.ref 84), none, some (.int v2), none, some (.int v4)] [.int s0] h) (kf : ((v2 >>> (v4 &&& 31)) &&& 1) = 0 → G X d 240 70 [some (.ref 84), none, some (.int v2), none, some (.int v4)] [.int s0] h) : G X d 240 61 [some (.ref 84), none, some (.int v2), none, some (.int v4)] [.int s0] h := by
  refine g_iload_n d_240_61 rfl rfl ?_
  refine g_iload d_240_62 rfl ?_
  refine g_ishr d_240_64 ?_
  refine g_iconst (v := 1) d_240_65 (by decide) ?_
  refine g_iand d_240_66 ?_
  exact g_if_ne (tgt := 74) d_240_67 (by decide) kt kf

theorem k_240_70 {X : GX} {d : Nat} {h : Hp} {v2 : Int32} {v4 : Int32} {s0 : Int32} {d' : Nat} {Q' : Int32 → Hp → Prop} (hdd : d' < d) (hC : CI d' 241 [.ref 84, .int v4] h Q') (kk : ∀ x h', Q' x h' → G X d 240 84 [some (.ref 84), none, none, some (.int (s0 + 1)), some (.int v4)] [.int x, .int v2] h') : G X d 240 70 [some (.ref 84), none, some (.int v2), none, some (.int v4)] [.int s0] h := by
  refine g_iconst (v := 1) d_240_70 (by decide) ?_
  refine g_goto (tgt := 75) d_240_71 (by decide) ?_
  refine g_iadd d_240_75 ?_
  refine g_istore_n d_240_76 rfl (Nat.le_of_ble_eq_true rfl) rfl ?_
  refine g_iload_n d_240_77 rfl rfl ?_
  refine g_aload_n d_240_78 rfl rfl ?_
  refine g_iload d_240_79 rfl ?_
  exact g_callVI (mj := 241) 9 [.int v4] [.int v2] d_240_81 wd_490 mo_241 mc_241 mv_241 rfl rfl rfl (Nat.le_of_ble_eq_true rfl) rfl hdd hC (fun x h' q => g_mask [true, false, false, true, true] (kk x h' q))

theorem k_240_74 {X : GX} {d : Nat} {h : Hp} {v2 : Int32} {v4 : Int32} {s0 : Int32} {d' : Nat} {Q' : Int32 → Hp → Prop} (hdd : d' < d) (hC : CI d' 241 [.ref 84, .int v4] h Q') (kk : ∀ x h', Q' x h' → G X d 240 84 [some (.ref 84), none, none, some (.int (s0 + 0)), some (.int v4)] [.int x, .int v2] h') : G X d 240 74 [some (.ref 84), none, some (.int v2), none, some (.int v4)] [.int s0] h := by
  refine g_iconst (v := 0) d_240_74 (by decide) ?_
  refine g_iadd d_240_75 ?_
  refine g_istore_n d_240_76 rfl (Nat.le_of_ble_eq_true rfl) rfl ?_
  refine g_iload_n d_240_77 rfl rfl ?_
  refine g_aload_n d_240_78 rfl rfl ?_
  refine g_iload d_240_79 rfl ?_
  exact g_callVI (mj := 241) 9 [.int v4] [.int v2] d_240_81 wd_490 mo_241 mc_241 mv_241 rfl rfl rfl (Nat.le_of_ble_eq_true rfl) rfl hdd hC (fun x h' q => g_mask [true, false, false, true, true] (kk x h' q))

theorem k_240_84 {X : GX} {d : Nat} {h : Hp} {v3 : Int32} {v4 : Int32} {s0 : Int32} {s1 : Int32} (kk : G X d 240 39 [some (.ref 84), none, some (.int (s1 ||| s0)), some (.int v3), some (.int (v4 + 1))] [] h) : G X d 240 84 [some (.ref 84), none, none, some (.int v3), some (.int v4)] [.int s0, .int s1] h := by
  refine g_ior d_240_84 ?_
  refine g_istore_n d_240_85 rfl (Nat.le_of_ble_eq_true rfl) rfl ?_
  refine g_iinc (w := 1) d_240_86 rfl (by decide) (Nat.le_of_ble_eq_true rfl) rfl ?_
  refine g_goto (tgt := 39) d_240_89 (by decide) ?_
  exact kk

theorem k_240_92 {X : GX} {d : Nat} {h : Hp} {v3 : Int32} (hq : RtX X (some (.int v3)) h) : G X d 240 92 [none, none, none, some (.int v3), none] [] h := by
  refine g_iload_n d_240_92 rfl rfl ?_
  exact g_reti d_240_93 rfl hq

/-! 241 PlayedTruthModel.strandOf(I)I -/
theorem k_241_0 {X : GX} {d : Nat} {h : Hp} {v1 : Int32} {d' : Nat} {Q' : Int32 → Hp → Prop} (hdd : d' < d) (hC : CI d' 182 [.ref 84, .int v1, .int 4] h Q') (kk : ∀ x h', Q' x h' → G X d 241 6 [some (.ref 84), some (.int v1), none, none, none, none] [.int x] h') : G X d 241 0 [some (.ref 84), some (.int v1), none, none, none, none] [] h := by
  refine g_aload_n d_241_0 rfl rfl ?_
  refine g_iload_n d_241_1 rfl rfl ?_
  refine g_iconst (v := 4) d_241_2 (by decide) ?_
  exact g_callVI (mj := 182) 9 [.int v1, .int 4] [] d_241_3 wd_402 mo_182 mc_182 mv_182 rfl rfl rfl (Nat.le_of_ble_eq_true rfl) rfl hdd hC kk

theorem k_241_6 {X : GX} {d : Nat} {h : Hp} {v1 : Int32} {s0 : Int32} (kt : ¬ s0 = 1 → G X d 241 14 [some (.ref 84), some (.int v1), none, none, none, none] [] h) (kf : s0 = 1 → G X d 241 10 [some (.ref 84), none, none, none, none, none] [] h) : G X d 241 6 [some (.ref 84), some (.int v1), none, none, none, none] [.int s0] h := by
  refine g_iconst (v := 1) d_241_6 (by decide) ?_
  exact g_icmp_ne (tgt := 14) d_241_7 (by decide) kt (fun q => g_mask [true, false, false, false, false, false] (kf q))

theorem k_241_10 {X : GX} {d : Nat} {h : Hp} (kk : G X d 241 20 [some (.ref 84), none, some (.int 0), some (.int 0), none, none] [] h) : G X d 241 10 [some (.ref 84), none, none, none, none, none] [] h := by
  refine g_iconst (v := 0) d_241_10 (by decide) ?_
  refine g_goto (tgt := 17) d_241_11 (by decide) ?_
  refine g_istore_n d_241_17 rfl (Nat.le_of_ble_eq_true rfl) rfl ?_
  refine g_iconst (v := 0) d_241_18 (by decide) ?_
  refine g_istore_n d_241_19 rfl (Nat.le_of_ble_eq_true rfl) rfl ?_
  exact kk

theorem k_241_14 {X : GX} {d : Nat} {h : Hp} {v1 : Int32} (kk : G X d 241 20 [some (.ref 84), none, some (.int (1 <<< (v1 &&& 31))), some (.int 0), none, none] [] h) : G X d 241 14 [some (.ref 84), some (.int v1), none, none, none, none] [] h := by
  refine g_iconst (v := 1) d_241_14 (by decide) ?_
  refine g_iload_n d_241_15 rfl rfl ?_
  refine g_ishl d_241_16 ?_
  refine g_istore_n d_241_17 rfl (Nat.le_of_ble_eq_true rfl) rfl ?_
  refine g_iconst (v := 0) d_241_18 (by decide) ?_
  refine g_istore_n d_241_19 rfl (Nat.le_of_ble_eq_true rfl) rfl ?_
  exact g_mask [true, false, true, true, false, false] kk

theorem k_241_20 {X : GX} {d : Nat} {h : Hp} {v2 : Int32} {v3 : Int32} (kt : 6 ≤ v3 → G X d 241 104 [none, none, some (.int v2), none, none, none] [] h) (kf : ¬ 6 ≤ v3 → G X d 241 26 [some (.ref 84), none, some (.int v2), some (.int v3), none, none] [] h) : G X d 241 20 [some (.ref 84), none, some (.int v2), some (.int v3), none, none] [] h := by
  refine g_iload_n d_241_20 rfl rfl ?_
  refine g_bipush (v := 6) d_241_21 (by decide) ?_
  exact g_icmp_ge (tgt := 104) d_241_23 (by decide) (fun q => g_mask [false, false, true, false, false, false] (kt q)) kf

theorem k_241_26 {X : GX} {d : Nat} {h : Hp} {v2 : Int32} {v3 : Int32} (kk : G X d 241 29 [some (.ref 84), none, some (.int v2), some (.int v3), some (.int 0), none] [] h) : G X d 241 26 [some (.ref 84), none, some (.int v2), some (.int v3), none, none] [] h := by
  refine g_iconst (v := 0) d_241_26 (by decide) ?_
  refine g_istore d_241_27 (Nat.le_of_ble_eq_true rfl) rfl ?_
  exact kk

theorem k_241_29 {X : GX} {d : Nat} {h : Hp} {v2 : Int32} {v3 : Int32} {v4 : Int32} (b0 : IA 85 0) (kt : (h 85 (Int32.toNatClampNeg 0)) ≤ v4 → G X d 241 98 [some (.ref 84), none, some (.int v2), some (.int v3), none, none] [] h) (kf : ¬ (h 85 (Int32.toNatClampNeg 0)) ≤ v4 → G X d 241 40 [some (.ref 84), none, some (.int v2), some (.int v3), some (.int v4), none] [] h) : G X d 241 29 [some (.ref 84), none, some (.int v2), some (.int v3), some (.int v4), none] [] h := by
  refine g_iload d_241_29 rfl ?_
  refine g_aload_n d_241_31 rfl rfl ?_
  refine g_getf (ci := 9) (k := 0) d_241_32 wd_355 (Nat.le_of_ble_eq_true rfl) rfl rfl ?_
  refine g_iconst (v := 0) d_241_35 (by decide) ?_
  refine g_iald d_241_36 b0 ?_
  exact g_icmp_ge (tgt := 98) d_241_37 (by decide) (fun q => g_mask [true, false, true, true, false, false] (kt q)) kf

theorem k_241_40 {X : GX} {d : Nat} {h : Hp} {v2 : Int32} {v3 : Int32} {v4 : Int32} (kk : G X d 241 43 [some (.ref 84), none, some (.int v2), some (.int v3), some (.int v4), some (.int 0)] [] h) : G X d 241 40 [some (.ref 84), none, some (.int v2), some (.int v3), some (.int v4), none] [] h := by
  refine g_iconst (v := 0) d_241_40 (by decide) ?_
  refine g_istore d_241_41 (Nat.le_of_ble_eq_true rfl) rfl ?_
  exact kk

theorem k_241_43 {X : GX} {d : Nat} {h : Hp} {v2 : Int32} {v3 : Int32} {v4 : Int32} {v5 : Int32} (b0 : IA 85 0) (kt : (h 85 (Int32.toNatClampNeg 0)) ≤ v5 → G X d 241 92 [some (.ref 84), none, some (.int v2), some (.int v3), some (.int v4), none] [] h) (kf : ¬ (h 85 (Int32.toNatClampNeg 0)) ≤ v5 → G X d 241 54 [some (.ref 84), none, some (.int v2), some (.int v3), some (.int v4), some (.int v5)] [] h) : G X d 241 43 [some (.ref 84), none, some (.int v2), some (.int v3), some (.int v4), some (.int v5)] [] h := by
  refine g_iload d_241_43 rfl ?_
  refine g_aload_n d_241_45 rfl rfl ?_
  refine g_getf (ci := 9) (k := 0) d_241_46 wd_355 (Nat.le_of_ble_eq_true rfl) rfl rfl ?_
  refine g_iconst (v := 0) d_241_49 (by decide) ?_
  refine g_iald d_241_50 b0 ?_
  exact g_icmp_ge (tgt := 92) d_241_51 (by decide) (fun q => g_mask [true, false, true, true, true, false] (kt q)) kf

theorem k_241_54 {X : GX} {d : Nat} {h : Hp} {v2 : Int32} {v3 : Int32} {v4 : Int32} {v5 : Int32} (kt : ¬ ((v2 >>> (v4 &&& 31)) &&& 1) = 1 → G X d 241 83 [some (.ref 84), none, none, some (.int v3), some (.int v4), some (.int v5)] [.int v2] h) (kf : ((v2 >>> (v4 &&& 31)) &&& 1) = 1 → G X d 241 65 [some (.ref 84), none, none, some (.int v3), some (.int v4), some (.int v5)] [.int v2] h) : G X d 241 54 [some (.ref 84), none, some (.int v2), some (.int v3), some (.int v4), some (.int v5)] [] h := by
  refine g_iload_n d_241_54 rfl rfl ?_
  refine g_iload_n d_241_55 rfl rfl ?_
  refine g_iload d_241_56 rfl ?_
  refine g_ishr d_241_58 ?_
  refine g_iconst (v := 1) d_241_59 (by decide) ?_
  refine g_iand d_241_60 ?_
  refine g_iconst (v := 1) d_241_61 (by decide) ?_
  exact g_icmp_ne (tgt := 83) d_241_62 (by decide) (fun q => g_mask [true, false, false, true, true, true] (kt q)) (fun q => g_mask [true, false, false, true, true, true] (kf q))

theorem k_241_65 {X : GX} {d : Nat} {h : Hp} {v3 : Int32} {v4 : Int32} {v5 : Int32} {s0 : Int32} {d' : Nat} {Q' : Int32 → Hp → Prop} (hdd : d' < d) (hC : CI d' 242 [.ref 84, .int v4, .int v5] h Q') (kk : ∀ x h', Q' x h' → G X d 241 73 [some (.ref 84), none, none, some (.int v3), some (.int v4), some (.int v5)] [.int x, .int s0] h') : G X d 241 65 [some (.ref 84), none, none, some (.int v3), some (.int v4), some (.int v5)] [.int s0] h := by
  refine g_aload_n d_241_65 rfl rfl ?_
  refine g_iload d_241_66 rfl ?_
  refine g_iload d_241_68 rfl ?_
  exact g_callVI (mj := 242) 9 [.int v4, .int v5] [.int s0] d_241_70 wd_491 mo_242 mc_242 mv_242 rfl rfl rfl (Nat.le_of_ble_eq_true rfl) rfl hdd hC kk

theorem k_241_73 {X : GX} {d : Nat} {h : Hp} {v3 : Int32} {v4 : Int32} {v5 : Int32} {s0 : Int32} {s1 : Int32} (kt : s0 = 0 → G X d 241 83 [some (.ref 84), none, none, some (.int v3), some (.int v4), some (.int v5)] [.int s1] h) (kf : ¬ s0 = 0 → G X d 241 76 [some (.ref 84), none, none, some (.int v3), some (.int v4), some (.int v5)] [.int s1] h) : G X d 241 73 [some (.ref 84), none, none, some (.int v3), some (.int v4), some (.int v5)] [.int s0, .int s1] h := by
  exact g_if_eq (tgt := 83) d_241_73 (by decide) kt kf

theorem k_241_76 {X : GX} {d : Nat} {h : Hp} {v3 : Int32} {v4 : Int32} {v5 : Int32} {s0 : Int32} (kk : G X d 241 43 [some (.ref 84), none, some (.int (s0 ||| (1 <<< (v5 &&& 31)))), some (.int v3), some (.int v4), some (.int (v5 + 1))] [] h) : G X d 241 76 [some (.ref 84), none, none, some (.int v3), some (.int v4), some (.int v5)] [.int s0] h := by
  refine g_iconst (v := 1) d_241_76 (by decide) ?_
  refine g_iload d_241_77 rfl ?_
  refine g_ishl d_241_79 ?_
  refine g_goto (tgt := 84) d_241_80 (by decide) ?_
  refine g_ior d_241_84 ?_
  refine g_istore_n d_241_85 rfl (Nat.le_of_ble_eq_true rfl) rfl ?_
  refine g_iinc (w := 1) d_241_86 rfl (by decide) (Nat.le_of_ble_eq_true rfl) rfl ?_
  refine g_goto (tgt := 43) d_241_89 (by decide) ?_
  exact kk

theorem k_241_83 {X : GX} {d : Nat} {h : Hp} {v3 : Int32} {v4 : Int32} {v5 : Int32} {s0 : Int32} (kk : G X d 241 43 [some (.ref 84), none, some (.int (s0 ||| 0)), some (.int v3), some (.int v4), some (.int (v5 + 1))] [] h) : G X d 241 83 [some (.ref 84), none, none, some (.int v3), some (.int v4), some (.int v5)] [.int s0] h := by
  refine g_iconst (v := 0) d_241_83 (by decide) ?_
  refine g_ior d_241_84 ?_
  refine g_istore_n d_241_85 rfl (Nat.le_of_ble_eq_true rfl) rfl ?_
  refine g_iinc (w := 1) d_241_86 rfl (by decide) (Nat.le_of_ble_eq_true rfl) rfl ?_
  refine g_goto (tgt := 43) d_241_89 (by decide) ?_
  exact kk

theorem k_241_92 {X : GX} {d : Nat} {h : Hp} {v2 : Int32} {v3 : Int32} {v4 : Int32} (kk : G X d 241 29 [some (.ref 84), none, some (.int v2), some (.int v3), some (.int (v4 + 1)), none] [] h) : G X d 241 92 [some (.ref 84), none, some (.int v2), some (.int v3), some (.int v4), none] [] h := by
  refine g_iinc (w := 1) d_241_92 rfl (by decide) (Nat.le_of_ble_eq_true rfl) rfl ?_
  refine g_goto (tgt := 29) d_241_95 (by decide) ?_
  exact kk

theorem k_241_98 {X : GX} {d : Nat} {h : Hp} {v2 : Int32} {v3 : Int32} (kk : G X d 241 20 [some (.ref 84), none, some (.int v2), some (.int (v3 + 1)), none, none] [] h) : G X d 241 98 [some (.ref 84), none, some (.int v2), some (.int v3), none, none] [] h := by
  refine g_iinc (w := 1) d_241_98 rfl (by decide) (Nat.le_of_ble_eq_true rfl) rfl ?_
  refine g_goto (tgt := 20) d_241_101 (by decide) ?_
  exact kk

theorem k_241_104 {X : GX} {d : Nat} {h : Hp} {v2 : Int32} (hq : RtX X (some (.int v2)) h) : G X d 241 104 [none, none, some (.int v2), none, none, none] [] h := by
  refine g_iload_n d_241_104 rfl rfl ?_
  exact g_reti d_241_105 rfl hq

/-! 242 PlayedTruthModel.isClose(II)Z -/
theorem k_242_0 {X : GX} {d : Nat} {h : Hp} {v1 : Int32} {v2 : Int32} {d' : Nat} {Q' : Int32 → Hp → Prop} (hdd : d' < d) (hC : CI d' 182 [.ref 84, .int v1, .int 4] h Q') (kk : ∀ x h', Q' x h' → G X d 242 6 [some (.ref 84), some (.int v1), some (.int v2)] [.int x] h') : G X d 242 0 [some (.ref 84), some (.int v1), some (.int v2)] [] h := by
  refine g_aload_n d_242_0 rfl rfl ?_
  refine g_iload_n d_242_1 rfl rfl ?_
  refine g_iconst (v := 4) d_242_2 (by decide) ?_
  exact g_callVI (mj := 182) 9 [.int v1, .int 4] [] d_242_3 wd_402 mo_182 mc_182 mv_182 rfl rfl rfl (Nat.le_of_ble_eq_true rfl) rfl hdd hC kk

theorem k_242_6 {X : GX} {d : Nat} {h : Hp} {v1 : Int32} {v2 : Int32} {s0 : Int32} {d' : Nat} {Q' : Int32 → Hp → Prop} (hdd : d' < d) (hC : CI d' 182 [.ref 84, .int v2, .int 4] h Q') (kk : ∀ x h', Q' x h' → G X d 242 12 [some (.ref 84), some (.int v1), some (.int v2)] [.int x, .int s0] h') : G X d 242 6 [some (.ref 84), some (.int v1), some (.int v2)] [.int s0] h := by
  refine g_aload_n d_242_6 rfl rfl ?_
  refine g_iload_n d_242_7 rfl rfl ?_
  refine g_iconst (v := 4) d_242_8 (by decide) ?_
  exact g_callVI (mj := 182) 9 [.int v2, .int 4] [.int s0] d_242_9 wd_402 mo_182 mc_182 mv_182 rfl rfl rfl (Nat.le_of_ble_eq_true rfl) rfl hdd hC kk

theorem k_242_12 {X : GX} {d : Nat} {h : Hp} {v1 : Int32} {v2 : Int32} {s0 : Int32} {s1 : Int32} (kt : ¬ (s1 + s0) = 0 → G X d 242 55 [none, none, none] [] h) (kf : (s1 + s0) = 0 → G X d 242 16 [some (.ref 84), some (.int v1), some (.int v2)] [] h) : G X d 242 12 [some (.ref 84), some (.int v1), some (.int v2)] [.int s0, .int s1] h := by
  refine g_iadd d_242_12 ?_
  exact g_if_ne (tgt := 55) d_242_13 (by decide) (fun q => g_mask [false, false, false] (kt q)) kf

theorem k_242_16 {X : GX} {d : Nat} {h : Hp} {v1 : Int32} {v2 : Int32} {d' : Nat} {Q' : Int32 → Hp → Prop} (hdd : d' < d) (hC : CI d' 182 [.ref 84, .int v1, .int 3] h Q') (kk : ∀ x h', Q' x h' → G X d 242 22 [some (.ref 84), some (.int v1), some (.int v2)] [.int x] h') : G X d 242 16 [some (.ref 84), some (.int v1), some (.int v2)] [] h := by
  refine g_aload_n d_242_16 rfl rfl ?_
  refine g_iload_n d_242_17 rfl rfl ?_
  refine g_iconst (v := 3) d_242_18 (by decide) ?_
  exact g_callVI (mj := 182) 9 [.int v1, .int 3] [] d_242_19 wd_402 mo_182 mc_182 mv_182 rfl rfl rfl (Nat.le_of_ble_eq_true rfl) rfl hdd hC kk

theorem k_242_22 {X : GX} {d : Nat} {h : Hp} {v1 : Int32} {v2 : Int32} {s0 : Int32} {d' : Nat} {Q' : Int32 → Hp → Prop} (hdd : d' < d) (hC : CI d' 182 [.ref 84, .int v2, .int 3] h Q') (kk : ∀ x h', Q' x h' → G X d 242 28 [some (.ref 84), some (.int v1), some (.int v2)] [.int x, .int s0] h') : G X d 242 22 [some (.ref 84), some (.int v1), some (.int v2)] [.int s0] h := by
  refine g_aload_n d_242_22 rfl rfl ?_
  refine g_iload_n d_242_23 rfl rfl ?_
  refine g_iconst (v := 3) d_242_24 (by decide) ?_
  exact g_callVI (mj := 182) 9 [.int v2, .int 3] [.int s0] d_242_25 wd_402 mo_182 mc_182 mv_182 rfl rfl rfl (Nat.le_of_ble_eq_true rfl) rfl hdd hC kk

theorem k_242_28 {X : GX} {d : Nat} {h : Hp} {v1 : Int32} {v2 : Int32} {s0 : Int32} {s1 : Int32} (kt : s1 = s0 → G X d 242 51 [none, none, none] [] h) (kf : ¬ s1 = s0 → G X d 242 31 [some (.ref 84), some (.int v1), some (.int v2)] [] h) : G X d 242 28 [some (.ref 84), some (.int v1), some (.int v2)] [.int s0, .int s1] h := by
  exact g_icmp_eq (tgt := 51) d_242_28 (by decide) (fun q => g_mask [false, false, false] (kt q)) kf

theorem k_242_31 {X : GX} {d : Nat} {h : Hp} {v1 : Int32} {v2 : Int32} {d' : Nat} {Q' : Int32 → Hp → Prop} (hdd : d' < d) (hC : CI d' 182 [.ref 84, .int v1, .int 1] h Q') (kk : ∀ x h', Q' x h' → G X d 242 37 [some (.ref 84), none, some (.int v2)] [.int x] h') : G X d 242 31 [some (.ref 84), some (.int v1), some (.int v2)] [] h := by
  refine g_aload_n d_242_31 rfl rfl ?_
  refine g_iload_n d_242_32 rfl rfl ?_
  refine g_iconst (v := 1) d_242_33 (by decide) ?_
  exact g_callVI (mj := 182) 9 [.int v1, .int 1] [] d_242_34 wd_402 mo_182 mc_182 mv_182 rfl rfl rfl (Nat.le_of_ble_eq_true rfl) rfl hdd hC (fun x h' q => g_mask [true, false, true] (kk x h' q))

theorem k_242_37 {X : GX} {d : Nat} {h : Hp} {v2 : Int32} {s0 : Int32} {d' : Nat} {Q' : Int32 → Hp → Prop} (hdd : d' < d) (hC : CI d' 182 [.ref 84, .int v2, .int 1] h Q') (kk : ∀ x h', Q' x h' → G X d 242 43 [none, none, none] [.int x, .int s0] h') : G X d 242 37 [some (.ref 84), none, some (.int v2)] [.int s0] h := by
  refine g_aload_n d_242_37 rfl rfl ?_
  refine g_iload_n d_242_38 rfl rfl ?_
  refine g_iconst (v := 1) d_242_39 (by decide) ?_
  exact g_callVI (mj := 182) 9 [.int v2, .int 1] [.int s0] d_242_40 wd_402 mo_182 mc_182 mv_182 rfl rfl rfl (Nat.le_of_ble_eq_true rfl) rfl hdd hC (fun x h' q => g_mask [false, false, false] (kk x h' q))

theorem k_242_43 {X : GX} {d : Nat} {h : Hp} {s0 : Int32} {s1 : Int32} {d' : Nat} {Q' : Int32 → Hp → Prop} (hdd : d' < d) (hC : CI d' 243 [.int (s1 - s0)] h Q') (kk : ∀ x h', Q' x h' → G X d 242 47 [none, none, none] [.int x] h') : G X d 242 43 [none, none, none] [.int s0, .int s1] h := by
  refine g_isub d_242_43 ?_
  exact g_callSI (mj := 243) [.int (s1 - s0)] [] d_242_44 wd_492 mo_243 mc_243 mv_243 rfl rfl (Nat.le_of_ble_eq_true rfl)  hdd hC kk

theorem k_242_47 {X : GX} {d : Nat} {h : Hp} {s0 : Int32} (kt : 3 < s0 → G X d 242 55 [none, none, none] [] h) (kf : ¬ 3 < s0 → G X d 242 51 [none, none, none] [] h) : G X d 242 47 [none, none, none] [.int s0] h := by
  refine g_iconst (v := 3) d_242_47 (by decide) ?_
  exact g_icmp_gt (tgt := 55) d_242_48 (by decide) kt kf

theorem k_242_51 {X : GX} {d : Nat} {h : Hp} (hq : RtX X (some (.int 1)) h) : G X d 242 51 [none, none, none] [] h := by
  refine g_iconst (v := 1) d_242_51 (by decide) ?_
  refine g_goto (tgt := 56) d_242_52 (by decide) ?_
  exact g_retz d_242_56 rfl z01_1 hq

theorem k_242_55 {X : GX} {d : Nat} {h : Hp} (hq : RtX X (some (.int 0)) h) : G X d 242 55 [none, none, none] [] h := by
  refine g_iconst (v := 0) d_242_55 (by decide) ?_
  exact g_retz d_242_56 rfl z01_0 hq

/-! 243 PlayedTruthModel.size(I)I -/
theorem k_243_0 {X : GX} {d : Nat} {h : Hp} {v0 : Int32} (kt : 0 ≤ v0 → G X d 243 9 [some (.int v0)] [] h) (kf : ¬ 0 ≤ v0 → G X d 243 4 [some (.int v0)] [] h) : G X d 243 0 [some (.int v0)] [] h := by
  refine g_iload_n d_243_0 rfl rfl ?_
  exact g_if_ge (tgt := 9) d_243_1 (by decide) kt kf

theorem k_243_4 {X : GX} {d : Nat} {h : Hp} {v0 : Int32} (hq : RtX X (some (.int (-v0))) h) : G X d 243 4 [some (.int v0)] [] h := by
  refine g_iload_n d_243_4 rfl rfl ?_
  refine g_ineg d_243_5 ?_
  refine g_goto (tgt := 10) d_243_6 (by decide) ?_
  exact g_reti d_243_10 rfl hq

theorem k_243_9 {X : GX} {d : Nat} {h : Hp} {v0 : Int32} (hq : RtX X (some (.int v0)) h) : G X d 243 9 [some (.int v0)] [] h := by
  refine g_iload_n d_243_9 rfl rfl ?_
  exact g_reti d_243_10 rfl hq

/-! 244 PlayedTruthModel.billing(I)I -/
theorem k_244_0 {X : GX} {d : Nat} {h : Hp} {v1 : Int32} {d' : Nat} {Q' : Int32 → Hp → Prop} (hdd : d' < d) (hC : CI d' 177 [.long (Int32.toInt64 v1), .long 0, .long 999] h Q') (kk : ∀ x h', Q' x h' → G X d 244 9 [some (.ref 84), some (.int v1), none, none, none, none] [.int x] h') : G X d 244 0 [some (.ref 84), some (.int v1), none, none, none, none] [] h := by
  refine g_iload_n d_244_0 rfl rfl ?_
  refine g_i2l d_244_1 ?_
  refine g_lconst (v := 0) d_244_2 (by decide) ?_
  refine g_ldc2_w (v := 999) d_244_3 wd_494 ?_
  exact g_callSI (mj := 177) [.long (Int32.toInt64 v1), .long 0, .long 999] [] d_244_6 wd_395 mo_177 mc_177 mv_177 rfl rfl (Nat.le_of_ble_eq_true rfl)  hdd hC kk

theorem k_244_9 {X : GX} {d : Nat} {h : Hp} {v1 : Int32} {s0 : Int32} (kt : ¬ s0 = 0 → G X d 244 14 [some (.ref 84), some (.int v1), none, none, none, none] [] h) (kf : s0 = 0 → G X d 244 12 [none, none, none, none, none, none] [] h) : G X d 244 9 [some (.ref 84), some (.int v1), none, none, none, none] [.int s0] h := by
  exact g_if_ne (tgt := 14) d_244_9 (by decide) kt (fun q => g_mask [false, false, false, false, false, false] (kf q))

theorem k_244_12 {X : GX} {d : Nat} {h : Hp} (hq : RtX X (some (.int ((-1)))) h) : G X d 244 12 [none, none, none, none, none, none] [] h := by
  refine g_iconst (v := (-1)) d_244_12 (by decide) ?_
  exact g_reti d_244_13 rfl hq

theorem k_244_14 {X : GX} {d : Nat} {h : Hp} {v1 : Int32} (kk : G X d 244 19 [some (.ref 84), some (.int v1), some (.int ((-3))), some (.int 0), none, none] [] h) : G X d 244 14 [some (.ref 84), some (.int v1), none, none, none, none] [] h := by
  refine g_bipush (v := (-3)) d_244_14 (by decide) ?_
  refine g_istore_n d_244_16 rfl (Nat.le_of_ble_eq_true rfl) rfl ?_
  refine g_iconst (v := 0) d_244_17 (by decide) ?_
  refine g_istore_n d_244_18 rfl (Nat.le_of_ble_eq_true rfl) rfl ?_
  exact kk

theorem k_244_19 {X : GX} {d : Nat} {h : Hp} {v1 : Int32} {v2 : Int32} {v3 : Int32} (b0 : IA 85 0) (kt : (1 <<< ((h 85 (Int32.toNatClampNeg 0)) &&& 31)) ≤ v3 → G X d 244 105 [none, none, some (.int v2), none, none, none] [] h) (kf : ¬ (1 <<< ((h 85 (Int32.toNatClampNeg 0)) &&& 31)) ≤ v3 → G X d 244 31 [some (.ref 84), some (.int v1), some (.int v2), some (.int v3), none, none] [] h) : G X d 244 19 [some (.ref 84), some (.int v1), some (.int v2), some (.int v3), none, none] [] h := by
  refine g_iload_n d_244_19 rfl rfl ?_
  refine g_iconst (v := 1) d_244_20 (by decide) ?_
  refine g_aload_n d_244_21 rfl rfl ?_
  refine g_getf (ci := 9) (k := 0) d_244_22 wd_355 (Nat.le_of_ble_eq_true rfl) rfl rfl ?_
  refine g_iconst (v := 0) d_244_25 (by decide) ?_
  refine g_iald d_244_26 b0 ?_
  refine g_ishl d_244_27 ?_
  exact g_icmp_ge (tgt := 105) d_244_28 (by decide) (fun q => g_mask [false, false, true, false, false, false] (kt q)) kf

theorem k_244_31 {X : GX} {d : Nat} {h : Hp} {v1 : Int32} {v2 : Int32} {v3 : Int32} (kk : G X d 244 37 [some (.ref 84), some (.int v1), some (.int v2), some (.int v3), some (.int 0), some (.int 0)] [] h) : G X d 244 31 [some (.ref 84), some (.int v1), some (.int v2), some (.int v3), none, none] [] h := by
  refine g_iconst (v := 0) d_244_31 (by decide) ?_
  refine g_istore d_244_32 (Nat.le_of_ble_eq_true rfl) rfl ?_
  refine g_iconst (v := 0) d_244_34 (by decide) ?_
  refine g_istore d_244_35 (Nat.le_of_ble_eq_true rfl) rfl ?_
  exact kk

theorem k_244_37 {X : GX} {d : Nat} {h : Hp} {v1 : Int32} {v2 : Int32} {v3 : Int32} {v4 : Int32} {v5 : Int32} (b0 : IA 85 0) (kt : (h 85 (Int32.toNatClampNeg 0)) ≤ v5 → G X d 244 72 [some (.ref 84), some (.int v1), some (.int v2), some (.int v3), some (.int v4), none] [] h) (kf : ¬ (h 85 (Int32.toNatClampNeg 0)) ≤ v5 → G X d 244 48 [some (.ref 84), some (.int v1), some (.int v2), some (.int v3), some (.int v4), some (.int v5)] [] h) : G X d 244 37 [some (.ref 84), some (.int v1), some (.int v2), some (.int v3), some (.int v4), some (.int v5)] [] h := by
  refine g_iload d_244_37 rfl ?_
  refine g_aload_n d_244_39 rfl rfl ?_
  refine g_getf (ci := 9) (k := 0) d_244_40 wd_355 (Nat.le_of_ble_eq_true rfl) rfl rfl ?_
  refine g_iconst (v := 0) d_244_43 (by decide) ?_
  refine g_iald d_244_44 b0 ?_
  exact g_icmp_ge (tgt := 72) d_244_45 (by decide) (fun q => g_mask [true, true, true, true, true, false] (kt q)) kf

theorem k_244_48 {X : GX} {d : Nat} {h : Hp} {v1 : Int32} {v2 : Int32} {v3 : Int32} {v4 : Int32} {v5 : Int32} {d' : Nat} {Q' : Int32 → Hp → Prop} (hdd : d' < d) (hC : CI d' 188 [.ref 84, .int v5] h Q') (kk : ∀ x h', Q' x h' → G X d 244 62 [some (.ref 84), some (.int v1), some (.int v2), some (.int v3), none, some (.int v5)] [.int x, .int ((v3 >>> (v5 &&& 31)) &&& 1), .int v4] h') : G X d 244 48 [some (.ref 84), some (.int v1), some (.int v2), some (.int v3), some (.int v4), some (.int v5)] [] h := by
  refine g_iload d_244_48 rfl ?_
  refine g_iload_n d_244_50 rfl rfl ?_
  refine g_iload d_244_51 rfl ?_
  refine g_ishr d_244_53 ?_
  refine g_iconst (v := 1) d_244_54 (by decide) ?_
  refine g_iand d_244_55 ?_
  refine g_aload_n d_244_56 rfl rfl ?_
  refine g_iload d_244_57 rfl ?_
  exact g_callVI (mj := 188) 9 [.int v5] [.int ((v3 >>> (v5 &&& 31)) &&& 1), .int v4] d_244_59 wd_408 mo_188 mc_188 mv_188 rfl rfl rfl (Nat.le_of_ble_eq_true rfl) rfl hdd hC (fun x h' q => g_mask [true, true, true, true, false, true] (kk x h' q))

theorem k_244_62 {X : GX} {d : Nat} {h : Hp} {v1 : Int32} {v2 : Int32} {v3 : Int32} {v5 : Int32} {s0 : Int32} {s1 : Int32} {s2 : Int32} (kk : G X d 244 37 [some (.ref 84), some (.int v1), some (.int v2), some (.int v3), some (.int (s2 + (s1 * s0))), some (.int (v5 + 1))] [] h) : G X d 244 62 [some (.ref 84), some (.int v1), some (.int v2), some (.int v3), none, some (.int v5)] [.int s0, .int s1, .int s2] h := by
  refine g_imul d_244_62 ?_
  refine g_iadd d_244_63 ?_
  refine g_istore d_244_64 (Nat.le_of_ble_eq_true rfl) rfl ?_
  refine g_iinc (w := 1) d_244_66 rfl (by decide) (Nat.le_of_ble_eq_true rfl) rfl ?_
  refine g_goto (tgt := 37) d_244_69 (by decide) ?_
  exact kk

theorem k_244_72 {X : GX} {d : Nat} {h : Hp} {v1 : Int32} {v2 : Int32} {v3 : Int32} {v4 : Int32} (kt : v4 < v1 → G X d 244 97 [some (.ref 84), some (.int v1), some (.int v2), some (.int v3), none, none] [] h) (kf : ¬ v4 < v1 → G X d 244 78 [some (.ref 84), some (.int v1), some (.int v2), some (.int v3), none, none] [] h) : G X d 244 72 [some (.ref 84), some (.int v1), some (.int v2), some (.int v3), some (.int v4), none] [] h := by
  refine g_iload d_244_72 rfl ?_
  refine g_iload_n d_244_74 rfl rfl ?_
  exact g_icmp_lt (tgt := 97) d_244_75 (by decide) (fun q => g_mask [true, true, true, true, false, false] (kt q)) (fun q => g_mask [true, true, true, true, false, false] (kf q))

theorem k_244_78 {X : GX} {d : Nat} {h : Hp} {v1 : Int32} {v2 : Int32} {v3 : Int32} (kt : v2 < 0 → G X d 244 93 [some (.ref 84), some (.int v1), none, some (.int v3), none, none] [] h) (kf : ¬ v2 < 0 → G X d 244 82 [some (.ref 84), some (.int v1), some (.int v2), some (.int v3), none, none] [] h) : G X d 244 78 [some (.ref 84), some (.int v1), some (.int v2), some (.int v3), none, none] [] h := by
  refine g_iload_n d_244_78 rfl rfl ?_
  exact g_if_lt (tgt := 93) d_244_79 (by decide) (fun q => g_mask [true, true, false, true, false, false] (kt q)) kf

theorem k_244_82 {X : GX} {d : Nat} {h : Hp} {v1 : Int32} {v2 : Int32} {v3 : Int32} {d' : Nat} {Q' : Int32 → Hp → Prop} (hdd : d' < d) (hC : CI d' 245 [.int v3] h Q') (kk : ∀ x h', Q' x h' → G X d 244 86 [some (.ref 84), some (.int v1), some (.int v2), some (.int v3), none, none] [.int x] h') : G X d 244 82 [some (.ref 84), some (.int v1), some (.int v2), some (.int v3), none, none] [] h := by
  refine g_iload_n d_244_82 rfl rfl ?_
  exact g_callSI (mj := 245) [.int v3] [] d_244_83 wd_495 mo_245 mc_245 mv_245 rfl rfl (Nat.le_of_ble_eq_true rfl)  hdd hC kk

theorem k_244_86 {X : GX} {d : Nat} {h : Hp} {v1 : Int32} {v2 : Int32} {v3 : Int32} {s0 : Int32} {d' : Nat} {Q' : Int32 → Hp → Prop} (hdd : d' < d) (hC : CI d' 245 [.int v2] h Q') (kk : ∀ x h', Q' x h' → G X d 244 90 [some (.ref 84), some (.int v1), some (.int v2), some (.int v3), none, none] [.int x, .int s0] h') : G X d 244 86 [some (.ref 84), some (.int v1), some (.int v2), some (.int v3), none, none] [.int s0] h := by
  refine g_iload_n d_244_86 rfl rfl ?_
  exact g_callSI (mj := 245) [.int v2] [.int s0] d_244_87 wd_495 mo_245 mc_245 mv_245 rfl rfl (Nat.le_of_ble_eq_true rfl)  hdd hC kk

theorem k_244_90 {X : GX} {d : Nat} {h : Hp} {v1 : Int32} {v2 : Int32} {v3 : Int32} {s0 : Int32} {s1 : Int32} (kt : s0 ≤ s1 → G X d 244 97 [some (.ref 84), some (.int v1), some (.int v2), some (.int v3), none, none] [] h) (kf : ¬ s0 ≤ s1 → G X d 244 93 [some (.ref 84), some (.int v1), none, some (.int v3), none, none] [] h) : G X d 244 90 [some (.ref 84), some (.int v1), some (.int v2), some (.int v3), none, none] [.int s0, .int s1] h := by
  exact g_icmp_ge (tgt := 97) d_244_90 (by decide) kt (fun q => g_mask [true, true, false, true, false, false] (kf q))

theorem k_244_93 {X : GX} {d : Nat} {h : Hp} {v1 : Int32} {v3 : Int32} (kk : G X d 244 19 [some (.ref 84), some (.int v1), some (.int v3), some (.int (v3 + 1)), none, none] [] h) : G X d 244 93 [some (.ref 84), some (.int v1), none, some (.int v3), none, none] [] h := by
  refine g_iload_n d_244_93 rfl rfl ?_
  refine g_goto (tgt := 98) d_244_94 (by decide) ?_
  refine g_istore_n d_244_98 rfl (Nat.le_of_ble_eq_true rfl) rfl ?_
  refine g_iinc (w := 1) d_244_99 rfl (by decide) (Nat.le_of_ble_eq_true rfl) rfl ?_
  refine g_goto (tgt := 19) d_244_102 (by decide) ?_
  exact kk

theorem k_244_97 {X : GX} {d : Nat} {h : Hp} {v1 : Int32} {v2 : Int32} {v3 : Int32} (kk : G X d 244 19 [some (.ref 84), some (.int v1), some (.int v2), some (.int (v3 + 1)), none, none] [] h) : G X d 244 97 [some (.ref 84), some (.int v1), some (.int v2), some (.int v3), none, none] [] h := by
  refine g_iload_n d_244_97 rfl rfl ?_
  refine g_istore_n d_244_98 rfl (Nat.le_of_ble_eq_true rfl) rfl ?_
  refine g_iinc (w := 1) d_244_99 rfl (by decide) (Nat.le_of_ble_eq_true rfl) rfl ?_
  refine g_goto (tgt := 19) d_244_102 (by decide) ?_
  exact kk

theorem k_244_105 {X : GX} {d : Nat} {h : Hp} {v2 : Int32} (hq : RtX X (some (.int v2)) h) : G X d 244 105 [none, none, some (.int v2), none, none, none] [] h := by
  refine g_iload_n d_244_105 rfl rfl ?_
  exact g_reti d_244_106 rfl hq

/-! 245 PlayedTruthModel.ones(I)I -/
theorem k_245_0 {X : GX} {d : Nat} {h : Hp} {v0 : Int32} (kk : G X d 245 4 [some (.int v0), some (.int 0), some (.int 0)] [] h) : G X d 245 0 [some (.int v0), none, none] [] h := by
  refine g_iconst (v := 0) d_245_0 (by decide) ?_
  refine g_istore_n d_245_1 rfl (Nat.le_of_ble_eq_true rfl) rfl ?_
  refine g_iconst (v := 0) d_245_2 (by decide) ?_
  refine g_istore_n d_245_3 rfl (Nat.le_of_ble_eq_true rfl) rfl ?_
  exact kk

theorem k_245_4 {X : GX} {d : Nat} {h : Hp} {v0 : Int32} {v1 : Int32} {v2 : Int32} (kt : 6 ≤ v2 → G X d 245 24 [none, some (.int v1), none] [] h) (kf : ¬ 6 ≤ v2 → G X d 245 10 [some (.int v0), some (.int v1), some (.int v2)] [] h) : G X d 245 4 [some (.int v0), some (.int v1), some (.int v2)] [] h := by
  refine g_iload_n d_245_4 rfl rfl ?_
  refine g_bipush (v := 6) d_245_5 (by decide) ?_
  exact g_icmp_ge (tgt := 24) d_245_7 (by decide) (fun q => g_mask [false, true, false] (kt q)) kf

theorem k_245_10 {X : GX} {d : Nat} {h : Hp} {v0 : Int32} {v1 : Int32} {v2 : Int32} (kk : G X d 245 4 [some (.int v0), some (.int (v1 + ((v0 >>> (v2 &&& 31)) &&& 1))), some (.int (v2 + 1))] [] h) : G X d 245 10 [some (.int v0), some (.int v1), some (.int v2)] [] h := by
  refine g_iload_n d_245_10 rfl rfl ?_
  refine g_iload_n d_245_11 rfl rfl ?_
  refine g_iload_n d_245_12 rfl rfl ?_
  refine g_ishr d_245_13 ?_
  refine g_iconst (v := 1) d_245_14 (by decide) ?_
  refine g_iand d_245_15 ?_
  refine g_iadd d_245_16 ?_
  refine g_istore_n d_245_17 rfl (Nat.le_of_ble_eq_true rfl) rfl ?_
  refine g_iinc (w := 1) d_245_18 rfl (by decide) (Nat.le_of_ble_eq_true rfl) rfl ?_
  refine g_goto (tgt := 4) d_245_21 (by decide) ?_
  exact kk

theorem k_245_24 {X : GX} {d : Nat} {h : Hp} {v1 : Int32} (hq : RtX X (some (.int v1)) h) : G X d 245 24 [none, some (.int v1), none] [] h := by
  refine g_iload_n d_245_24 rfl rfl ?_
  exact g_reti d_245_25 rfl hq

/-! 246 PlayedTruthModel.best(I)I -/
theorem k_246_0 {X : GX} {d : Nat} {h : Hp} {v1 : Int32} {d' : Nat} {Q' : Int32 → Hp → Prop} (hdd : d' < d) (hC : CI d' 247 [.int v1] h Q') (kk : ∀ x h', Q' x h' → G X d 246 4 [some (.ref 84), some (.int v1)] [.int x] h') : G X d 246 0 [some (.ref 84), some (.int v1)] [] h := by
  refine g_iload_n d_246_0 rfl rfl ?_
  exact g_callSI (mj := 247) [.int v1] [] d_246_1 wd_497 mo_247 mc_247 mv_247 rfl rfl (Nat.le_of_ble_eq_true rfl)  hdd hC kk

theorem k_246_4 {X : GX} {d : Nat} {h : Hp} {v1 : Int32} {s0 : Int32} (kt : ¬ s0 = 0 → G X d 246 9 [some (.ref 84), some (.int v1)] [] h) (kf : s0 = 0 → G X d 246 7 [none, none] [] h) : G X d 246 4 [some (.ref 84), some (.int v1)] [.int s0] h := by
  exact g_if_ne (tgt := 9) d_246_4 (by decide) kt (fun q => g_mask [false, false] (kf q))

theorem k_246_7 {X : GX} {d : Nat} {h : Hp} (hq : RtX X (some (.int ((-1)))) h) : G X d 246 7 [none, none] [] h := by
  refine g_iconst (v := (-1)) d_246_7 (by decide) ?_
  exact g_reti d_246_8 rfl hq

theorem k_246_9 {X : GX} {d : Nat} {h : Hp} {v1 : Int32} {d' : Nat} {Q' : Hp → Prop} (hdd : d' < d) (hC : CV d' 248 [.ref 84, .int v1] h Q') (kk : ∀ h', Q' h' → G X d 246 14 [some (.ref 84), none] [] h') : G X d 246 9 [some (.ref 84), some (.int v1)] [] h := by
  refine g_aload_n d_246_9 rfl rfl ?_
  refine g_iload_n d_246_10 rfl rfl ?_
  exact g_callVV (mj := 248) 9 [.int v1] [] d_246_11 wd_499 mo_248 mc_248 mv_248 rfl rfl rfl (Nat.le_of_ble_eq_true rfl) rfl hdd hC (fun h' q => g_mask [true, false] (kk h' q))

theorem k_246_14 {X : GX} {d : Nat} {h : Hp} (hq : RtX X (some (.int (h 84 19))) h) : G X d 246 14 [some (.ref 84), none] [] h := by
  refine g_aload_n d_246_14 rfl rfl ?_
  refine g_getf (ci := 9) (k := 19) d_246_15 wd_374 (Nat.le_of_ble_eq_true rfl) rfl rfl ?_
  exact g_reti d_246_18 rfl hq

/-! 247 PlayedTruthModel.isPlan(I)Z -/
theorem k_247_0 {X : GX} {d : Nat} {h : Hp} {v0 : Int32} {d' : Nat} {Q' : Int32 → Hp → Prop} (hdd : d' < d) (hC : CI d' 177 [.long (Int32.toInt64 v0), .long 0, .long 4] h Q') (kk : ∀ x h', Q' x h' → G X d 247 9 [none] [.int x] h') : G X d 247 0 [some (.int v0)] [] h := by
  refine g_iload_n d_247_0 rfl rfl ?_
  refine g_i2l d_247_1 ?_
  refine g_lconst (v := 0) d_247_2 (by decide) ?_
  refine g_ldc2_w (v := 4) d_247_3 wd_498 ?_
  exact g_callSI (mj := 177) [.long (Int32.toInt64 v0), .long 0, .long 4] [] d_247_6 wd_395 mo_177 mc_177 mv_177 rfl rfl (Nat.le_of_ble_eq_true rfl)  hdd hC (fun x h' q => g_mask [false] (kk x h' q))

theorem k_247_9 {X : GX} {d : Nat} {h : Hp} {s0 : Int32} (z0 : s0 = 0 ∨ s0 = 1) (hq : RtX X (some (.int s0)) h) : G X d 247 9 [none] [.int s0] h := by
  exact g_retz d_247_9 rfl z0 hq

/-! 248 PlayedTruthModel.findBest(I)V -/
theorem k_248_0 {X : GX} {d : Nat} {h : Hp} {v1 : Int32} {d' : Nat} {Q' : Int32 → Hp → Prop} (hdd : d' < d) (hC : CI d' 249 [.ref 84, .int v1] h Q') (kk : ∀ x h', Q' x h' → G X d 248 5 [some (.ref 84), some (.int v1), none, none, none, none, none] [.int x] h') : G X d 248 0 [some (.ref 84), some (.int v1), none, none, none, none, none] [] h := by
  refine g_aload_n d_248_0 rfl rfl ?_
  refine g_iload_n d_248_1 rfl rfl ?_
  exact g_callVI (mj := 249) 9 [.int v1] [] d_248_2 wd_500 mo_249 mc_249 mv_249 rfl rfl rfl (Nat.le_of_ble_eq_true rfl) rfl hdd hC kk

theorem k_248_5 {X : GX} {d : Nat} {h : Hp} {v1 : Int32} {s0 : Int32} {d' : Nat} {Q' : Int32 → Hp → Prop} (hdd : d' < d) (hC : CI d' 250 [.ref 84, .int v1] h Q') (kk : ∀ x h', Q' x h' → G X d 248 11 [some (.ref 84), none, some (.int s0), none, none, none, none] [.int x] h') : G X d 248 5 [some (.ref 84), some (.int v1), none, none, none, none, none] [.int s0] h := by
  refine g_istore_n d_248_5 rfl (Nat.le_of_ble_eq_true rfl) rfl ?_
  refine g_aload_n d_248_6 rfl rfl ?_
  refine g_iload_n d_248_7 rfl rfl ?_
  exact g_callVI (mj := 250) 9 [.int v1] [] d_248_8 wd_501 mo_250 mc_250 mv_250 rfl rfl rfl (Nat.le_of_ble_eq_true rfl) rfl hdd hC (fun x h' q => g_mask [true, false, true, false, false, false, false] (kk x h' q))

theorem k_248_11 {X : GX} {d : Nat} {h : Hp} {v2 : Int32} {s0 : Int32} {d' : Nat} {Q' : Hp → Prop} (hdd : d' < d) (hC : CV d' 229 [.ref 84] (wr h 84 19 ((-1))) Q') (kk : ∀ h', Q' h' → G X d 248 21 [some (.ref 84), none, some (.int v2), some (.int s0), none, none, none] [] h') : G X d 248 11 [some (.ref 84), none, some (.int v2), none, none, none, none] [.int s0] h := by
  refine g_istore_n d_248_11 rfl (Nat.le_of_ble_eq_true rfl) rfl ?_
  refine g_aload_n d_248_12 rfl rfl ?_
  refine g_iconst (v := (-1)) d_248_13 (by decide) ?_
  refine g_putf (ci := 9) (k := 19) d_248_14 wd_374 (Nat.le_of_ble_eq_true rfl) (Nat.le_of_ble_eq_true rfl) rfl rfl (Or.inl ⟨rfl, rfl⟩) rfl ?_
  refine g_aload_n d_248_17 rfl rfl ?_
  exact g_callVV (mj := 229) 9 [] [] d_248_18 wd_477 mo_229 mc_229 mv_229 rfl rfl rfl (Nat.le_of_ble_eq_true rfl) rfl hdd hC kk

theorem k_248_21 {X : GX} {d : Nat} {h : Hp} {v2 : Int32} {v3 : Int32} (kk : G X d 248 24 [some (.ref 84), none, some (.int v2), some (.int v3), some (.int 0), none, none] [] h) : G X d 248 21 [some (.ref 84), none, some (.int v2), some (.int v3), none, none, none] [] h := by
  refine g_iconst (v := 0) d_248_21 (by decide) ?_
  refine g_istore d_248_22 (Nat.le_of_ble_eq_true rfl) rfl ?_
  exact kk

theorem k_248_24 {X : GX} {d : Nat} {h : Hp} {v2 : Int32} {v3 : Int32} {v4 : Int32} (kt : v3 ≤ v4 → G X d 248 164 [some (.ref 84), none, none, none, none, none, none] [] h) (kf : ¬ v3 ≤ v4 → G X d 248 30 [some (.ref 84), none, some (.int v2), some (.int v3), some (.int v4), none, none] [] h) : G X d 248 24 [some (.ref 84), none, some (.int v2), some (.int v3), some (.int v4), none, none] [] h := by
  refine g_iload d_248_24 rfl ?_
  refine g_iload_n d_248_26 rfl rfl ?_
  exact g_icmp_ge (tgt := 164) d_248_27 (by decide) (fun q => g_mask [true, false, false, false, false, false, false] (kt q)) kf

theorem k_248_30 {X : GX} {d : Nat} {h : Hp} {v2 : Int32} {v3 : Int32} {v4 : Int32} {d' : Nat} {Q' : Hp → Prop} (hdd : d' < d) (hC : CV d' 251 [.ref 84, .int v4, .int v2] h Q') (kk : ∀ h', Q' h' → G X d 248 37 [some (.ref 84), none, some (.int v2), some (.int v3), some (.int v4), none, none] [] h') : G X d 248 30 [some (.ref 84), none, some (.int v2), some (.int v3), some (.int v4), none, none] [] h := by
  refine g_aload_n d_248_30 rfl rfl ?_
  refine g_iload d_248_31 rfl ?_
  refine g_iload_n d_248_33 rfl rfl ?_
  exact g_callVV (mj := 251) 9 [.int v4, .int v2] [] d_248_34 wd_502 mo_251 mc_251 mv_251 rfl rfl rfl (Nat.le_of_ble_eq_true rfl) rfl hdd hC kk

theorem k_248_37 {X : GX} {d : Nat} {h : Hp} {v2 : Int32} {v3 : Int32} {v4 : Int32} (kk : G X d 248 43 [some (.ref 84), none, some (.int v2), some (.int v3), some (.int v4), some (.int 0), some (.int 0)] [] h) : G X d 248 37 [some (.ref 84), none, some (.int v2), some (.int v3), some (.int v4), none, none] [] h := by
  refine g_iconst (v := 0) d_248_37 (by decide) ?_
  refine g_istore d_248_38 (Nat.le_of_ble_eq_true rfl) rfl ?_
  refine g_iconst (v := 0) d_248_40 (by decide) ?_
  refine g_istore d_248_41 (Nat.le_of_ble_eq_true rfl) rfl ?_
  exact kk

theorem k_248_43 {X : GX} {d : Nat} {h : Hp} {v2 : Int32} {v3 : Int32} {v4 : Int32} {v5 : Int32} {v6 : Int32} (kt : v2 ≤ v6 → G X d 248 71 [some (.ref 84), none, some (.int v2), some (.int v3), some (.int v4), some (.int v5), none] [] h) (kf : ¬ v2 ≤ v6 → G X d 248 49 [some (.ref 84), none, some (.int v2), some (.int v3), some (.int v4), some (.int v5), some (.int v6)] [] h) : G X d 248 43 [some (.ref 84), none, some (.int v2), some (.int v3), some (.int v4), some (.int v5), some (.int v6)] [] h := by
  refine g_iload d_248_43 rfl ?_
  refine g_iload_n d_248_45 rfl rfl ?_
  exact g_icmp_ge (tgt := 71) d_248_46 (by decide) (fun q => g_mask [true, false, true, true, true, true, false] (kt q)) kf

theorem k_248_49 {X : GX} {d : Nat} {h : Hp} {v2 : Int32} {v3 : Int32} {v4 : Int32} {v5 : Int32} {v6 : Int32} {d' : Nat} {Q' : Int32 → Hp → Prop} (b0 : IA 92 v6) (hdd : d' < d) (hC : CI d' 226 [.ref 84, .int (h 92 (Int32.toNatClampNeg v6))] h Q') (kk : ∀ x h', Q' x h' → G X d 248 62 [some (.ref 84), none, some (.int v2), some (.int v3), some (.int v4), none, some (.int v6)] [.int x, .int v5] h') : G X d 248 49 [some (.ref 84), none, some (.int v2), some (.int v3), some (.int v4), some (.int v5), some (.int v6)] [] h := by
  refine g_iload d_248_49 rfl ?_
  refine g_aload_n d_248_51 rfl rfl ?_
  refine g_aload_n d_248_52 rfl rfl ?_
  refine g_getf (ci := 9) (k := 18) d_248_53 wd_373 (Nat.le_of_ble_eq_true rfl) rfl rfl ?_
  refine g_iload d_248_56 rfl ?_
  refine g_iald d_248_58 b0 ?_
  exact g_callVI (mj := 226) 9 [.int (h 92 (Int32.toNatClampNeg v6))] [.int v5] d_248_59 wd_474 mo_226 mc_226 mv_226 rfl rfl rfl (Nat.le_of_ble_eq_true rfl) rfl hdd hC (fun x h' q => g_mask [true, false, true, true, true, false, true] (kk x h' q))

theorem k_248_62 {X : GX} {d : Nat} {h : Hp} {v2 : Int32} {v3 : Int32} {v4 : Int32} {v6 : Int32} {s0 : Int32} {s1 : Int32} (kk : G X d 248 43 [some (.ref 84), none, some (.int v2), some (.int v3), some (.int v4), some (.int (s1 + s0)), some (.int (v6 + 1))] [] h) : G X d 248 62 [some (.ref 84), none, some (.int v2), some (.int v3), some (.int v4), none, some (.int v6)] [.int s0, .int s1] h := by
  refine g_iadd d_248_62 ?_
  refine g_istore d_248_63 (Nat.le_of_ble_eq_true rfl) rfl ?_
  refine g_iinc (w := 1) d_248_65 rfl (by decide) (Nat.le_of_ble_eq_true rfl) rfl ?_
  refine g_goto (tgt := 43) d_248_68 (by decide) ?_
  exact kk

theorem k_248_71 {X : GX} {d : Nat} {h : Hp} {v2 : Int32} {v3 : Int32} {v4 : Int32} {v5 : Int32} {d' : Nat} {Q' : Hp → Prop} (hdd : d' < d) (hC : CV d' 232 [.ref 84] h Q') (kk : ∀ h', Q' h' → G X d 248 75 [some (.ref 84), none, some (.int v2), some (.int v3), some (.int v4), some (.int v5), none] [] h') : G X d 248 71 [some (.ref 84), none, some (.int v2), some (.int v3), some (.int v4), some (.int v5), none] [] h := by
  refine g_aload_n d_248_71 rfl rfl ?_
  exact g_callVV (mj := 232) 9 [] [] d_248_72 wd_480 mo_232 mc_232 mv_232 rfl rfl rfl (Nat.le_of_ble_eq_true rfl) rfl hdd hC kk

theorem k_248_75 {X : GX} {d : Nat} {h : Hp} {v2 : Int32} {v3 : Int32} {v4 : Int32} {v5 : Int32} (kt : v5 ≤ (h 84 19) → G X d 248 90 [some (.ref 84), none, some (.int v2), some (.int v3), some (.int v4), some (.int v5), none] [.ref 84] h) (kf : ¬ v5 ≤ (h 84 19) → G X d 248 85 [some (.ref 84), none, some (.int v2), some (.int v3), some (.int v4), some (.int v5), none] [.ref 84] h) : G X d 248 75 [some (.ref 84), none, some (.int v2), some (.int v3), some (.int v4), some (.int v5), none] [] h := by
  refine g_aload_n d_248_75 rfl rfl ?_
  refine g_iload d_248_76 rfl ?_
  refine g_aload_n d_248_78 rfl rfl ?_
  refine g_getf (ci := 9) (k := 19) d_248_79 wd_374 (Nat.le_of_ble_eq_true rfl) rfl rfl ?_
  exact g_icmp_le (tgt := 90) d_248_82 (by decide) kt kf

theorem k_248_85 {X : GX} {d : Nat} {h : Hp} {v2 : Int32} {v3 : Int32} {v4 : Int32} {v5 : Int32} {s0 : Nat} (o0 : sh s0 = (1, 9)) (kt : v5 ≤ ((wr h s0 20 v4) 84 19) → G X d 248 111 [some (.ref 84), none, some (.int v2), some (.int v3), some (.int v4), some (.int v5), none] [.ref 84] (wr h s0 20 v4)) (kf : ¬ v5 ≤ ((wr h s0 20 v4) 84 19) → G X d 248 107 [some (.ref 84), none, some (.int v2), some (.int v3), some (.int v4), some (.int v5), none] [.ref 84] (wr h s0 20 v4)) : G X d 248 85 [some (.ref 84), none, some (.int v2), some (.int v3), some (.int v4), some (.int v5), none] [.ref s0] h := by
  refine g_iload d_248_85 rfl ?_
  refine g_goto (tgt := 94) d_248_87 (by decide) ?_
  refine g_putf (ci := 9) (k := 20) d_248_94 wd_375 (Nat.le_of_ble_eq_true rfl) (Nat.le_of_ble_eq_true rfl) rfl rfl (Or.inl ⟨rfl, rfl⟩) o0 ?_
  refine g_aload_n d_248_97 rfl rfl ?_
  refine g_iload d_248_98 rfl ?_
  refine g_aload_n d_248_100 rfl rfl ?_
  refine g_getf (ci := 9) (k := 19) d_248_101 wd_374 (Nat.le_of_ble_eq_true rfl) rfl rfl ?_
  exact g_icmp_le (tgt := 111) d_248_104 (by decide) kt kf

theorem k_248_90 {X : GX} {d : Nat} {h : Hp} {v2 : Int32} {v3 : Int32} {v4 : Int32} {v5 : Int32} {s0 : Nat} (o0 : sh s0 = (1, 9)) (kt : v5 ≤ ((wr h s0 20 (h 84 20)) 84 19) → G X d 248 111 [some (.ref 84), none, some (.int v2), some (.int v3), some (.int v4), some (.int v5), none] [.ref 84] (wr h s0 20 (h 84 20))) (kf : ¬ v5 ≤ ((wr h s0 20 (h 84 20)) 84 19) → G X d 248 107 [some (.ref 84), none, some (.int v2), some (.int v3), some (.int v4), some (.int v5), none] [.ref 84] (wr h s0 20 (h 84 20))) : G X d 248 90 [some (.ref 84), none, some (.int v2), some (.int v3), some (.int v4), some (.int v5), none] [.ref s0] h := by
  refine g_aload_n d_248_90 rfl rfl ?_
  refine g_getf (ci := 9) (k := 20) d_248_91 wd_375 (Nat.le_of_ble_eq_true rfl) rfl rfl ?_
  refine g_putf (ci := 9) (k := 20) d_248_94 wd_375 (Nat.le_of_ble_eq_true rfl) (Nat.le_of_ble_eq_true rfl) rfl rfl (Or.inl ⟨rfl, rfl⟩) o0 ?_
  refine g_aload_n d_248_97 rfl rfl ?_
  refine g_iload d_248_98 rfl ?_
  refine g_aload_n d_248_100 rfl rfl ?_
  refine g_getf (ci := 9) (k := 19) d_248_101 wd_374 (Nat.le_of_ble_eq_true rfl) rfl rfl ?_
  exact g_icmp_le (tgt := 111) d_248_104 (by decide) kt kf

theorem k_248_107 {X : GX} {d : Nat} {h : Hp} {v2 : Int32} {v3 : Int32} {v4 : Int32} {v5 : Int32} {s0 : Nat} (o0 : sh s0 = (1, 9)) (kt : v5 ≤ ((wr h s0 21 1) 84 19) → G X d 248 151 [some (.ref 84), none, some (.int v2), some (.int v3), some (.int v4), none, none] [.ref 84] (wr h s0 21 1)) (kf : ¬ v5 ≤ ((wr h s0 21 1) 84 19) → G X d 248 146 [some (.ref 84), none, some (.int v2), some (.int v3), some (.int v4), some (.int v5), none] [.ref 84] (wr h s0 21 1)) : G X d 248 107 [some (.ref 84), none, some (.int v2), some (.int v3), some (.int v4), some (.int v5), none] [.ref s0] h := by
  refine g_iconst (v := 1) d_248_107 (by decide) ?_
  refine g_goto (tgt := 133) d_248_108 (by decide) ?_
  refine g_putf (ci := 9) (k := 21) d_248_133 wd_376 (Nat.le_of_ble_eq_true rfl) (Nat.le_of_ble_eq_true rfl) rfl rfl (Or.inl ⟨rfl, rfl⟩) o0 ?_
  refine g_aload_n d_248_136 rfl rfl ?_
  refine g_iload d_248_137 rfl ?_
  refine g_aload_n d_248_139 rfl rfl ?_
  refine g_getf (ci := 9) (k := 19) d_248_140 wd_374 (Nat.le_of_ble_eq_true rfl) rfl rfl ?_
  exact g_icmp_le (tgt := 151) d_248_143 (by decide) (fun q => g_mask [true, false, true, true, true, false, false] (kt q)) kf

theorem k_248_111 {X : GX} {d : Nat} {h : Hp} {v2 : Int32} {v3 : Int32} {v4 : Int32} {v5 : Int32} {s0 : Nat} (kt : ¬ v5 = (h 84 19) → G X d 248 129 [some (.ref 84), none, some (.int v2), some (.int v3), some (.int v4), some (.int v5), none] [.ref s0] h) (kf : v5 = (h 84 19) → G X d 248 120 [some (.ref 84), none, some (.int v2), some (.int v3), some (.int v4), some (.int v5), none] [.ref s0] h) : G X d 248 111 [some (.ref 84), none, some (.int v2), some (.int v3), some (.int v4), some (.int v5), none] [.ref s0] h := by
  refine g_iload d_248_111 rfl ?_
  refine g_aload_n d_248_113 rfl rfl ?_
  refine g_getf (ci := 9) (k := 19) d_248_114 wd_374 (Nat.le_of_ble_eq_true rfl) rfl rfl ?_
  exact g_icmp_ne (tgt := 129) d_248_117 (by decide) kt kf

theorem k_248_120 {X : GX} {d : Nat} {h : Hp} {v2 : Int32} {v3 : Int32} {v4 : Int32} {v5 : Int32} {s0 : Nat} (o0 : sh s0 = (1, 9)) (kt : v5 ≤ ((wr h s0 21 ((h 84 21) + 1)) 84 19) → G X d 248 151 [some (.ref 84), none, some (.int v2), some (.int v3), some (.int v4), none, none] [.ref 84] (wr h s0 21 ((h 84 21) + 1))) (kf : ¬ v5 ≤ ((wr h s0 21 ((h 84 21) + 1)) 84 19) → G X d 248 146 [some (.ref 84), none, some (.int v2), some (.int v3), some (.int v4), some (.int v5), none] [.ref 84] (wr h s0 21 ((h 84 21) + 1))) : G X d 248 120 [some (.ref 84), none, some (.int v2), some (.int v3), some (.int v4), some (.int v5), none] [.ref s0] h := by
  refine g_aload_n d_248_120 rfl rfl ?_
  refine g_getf (ci := 9) (k := 21) d_248_121 wd_376 (Nat.le_of_ble_eq_true rfl) rfl rfl ?_
  refine g_iconst (v := 1) d_248_124 (by decide) ?_
  refine g_iadd d_248_125 ?_
  refine g_goto (tgt := 133) d_248_126 (by decide) ?_
  refine g_putf (ci := 9) (k := 21) d_248_133 wd_376 (Nat.le_of_ble_eq_true rfl) (Nat.le_of_ble_eq_true rfl) rfl rfl (Or.inl ⟨rfl, rfl⟩) o0 ?_
  refine g_aload_n d_248_136 rfl rfl ?_
  refine g_iload d_248_137 rfl ?_
  refine g_aload_n d_248_139 rfl rfl ?_
  refine g_getf (ci := 9) (k := 19) d_248_140 wd_374 (Nat.le_of_ble_eq_true rfl) rfl rfl ?_
  exact g_icmp_le (tgt := 151) d_248_143 (by decide) (fun q => g_mask [true, false, true, true, true, false, false] (kt q)) kf

theorem k_248_129 {X : GX} {d : Nat} {h : Hp} {v2 : Int32} {v3 : Int32} {v4 : Int32} {v5 : Int32} {s0 : Nat} (o0 : sh s0 = (1, 9)) (kt : v5 ≤ ((wr h s0 21 (h 84 21)) 84 19) → G X d 248 151 [some (.ref 84), none, some (.int v2), some (.int v3), some (.int v4), none, none] [.ref 84] (wr h s0 21 (h 84 21))) (kf : ¬ v5 ≤ ((wr h s0 21 (h 84 21)) 84 19) → G X d 248 146 [some (.ref 84), none, some (.int v2), some (.int v3), some (.int v4), some (.int v5), none] [.ref 84] (wr h s0 21 (h 84 21))) : G X d 248 129 [some (.ref 84), none, some (.int v2), some (.int v3), some (.int v4), some (.int v5), none] [.ref s0] h := by
  refine g_aload_n d_248_129 rfl rfl ?_
  refine g_getf (ci := 9) (k := 21) d_248_130 wd_376 (Nat.le_of_ble_eq_true rfl) rfl rfl ?_
  refine g_putf (ci := 9) (k := 21) d_248_133 wd_376 (Nat.le_of_ble_eq_true rfl) (Nat.le_of_ble_eq_true rfl) rfl rfl (Or.inl ⟨rfl, rfl⟩) o0 ?_
  refine g_aload_n d_248_136 rfl rfl ?_
  refine g_iload d_248_137 rfl ?_
  refine g_aload_n d_248_139 rfl rfl ?_
  refine g_getf (ci := 9) (k := 19) d_248_140 wd_374 (Nat.le_of_ble_eq_true rfl) rfl rfl ?_
  exact g_icmp_le (tgt := 151) d_248_143 (by decide) (fun q => g_mask [true, false, true, true, true, false, false] (kt q)) kf

theorem k_248_146 {X : GX} {d : Nat} {h : Hp} {v2 : Int32} {v3 : Int32} {v4 : Int32} {v5 : Int32} {s0 : Nat} (o0 : sh s0 = (1, 9)) (kk : G X d 248 24 [some (.ref 84), none, some (.int v2), some (.int v3), some (.int (v4 + 1)), none, none] [] (wr h s0 19 v5)) : G X d 248 146 [some (.ref 84), none, some (.int v2), some (.int v3), some (.int v4), some (.int v5), none] [.ref s0] h := by
  refine g_iload d_248_146 rfl ?_
  refine g_goto (tgt := 155) d_248_148 (by decide) ?_
  refine g_putf (ci := 9) (k := 19) d_248_155 wd_374 (Nat.le_of_ble_eq_true rfl) (Nat.le_of_ble_eq_true rfl) rfl rfl (Or.inl ⟨rfl, rfl⟩) o0 ?_
  refine g_iinc (w := 1) d_248_158 rfl (by decide) (Nat.le_of_ble_eq_true rfl) rfl ?_
  refine g_goto (tgt := 24) d_248_161 (by decide) ?_
  exact g_mask [true, false, true, true, true, false, false] kk

theorem k_248_151 {X : GX} {d : Nat} {h : Hp} {v2 : Int32} {v3 : Int32} {v4 : Int32} {s0 : Nat} (o0 : sh s0 = (1, 9)) (kk : G X d 248 24 [some (.ref 84), none, some (.int v2), some (.int v3), some (.int (v4 + 1)), none, none] [] (wr h s0 19 (h 84 19))) : G X d 248 151 [some (.ref 84), none, some (.int v2), some (.int v3), some (.int v4), none, none] [.ref s0] h := by
  refine g_aload_n d_248_151 rfl rfl ?_
  refine g_getf (ci := 9) (k := 19) d_248_152 wd_374 (Nat.le_of_ble_eq_true rfl) rfl rfl ?_
  refine g_putf (ci := 9) (k := 19) d_248_155 wd_374 (Nat.le_of_ble_eq_true rfl) (Nat.le_of_ble_eq_true rfl) rfl rfl (Or.inl ⟨rfl, rfl⟩) o0 ?_
  refine g_iinc (w := 1) d_248_158 rfl (by decide) (Nat.le_of_ble_eq_true rfl) rfl ?_
  refine g_goto (tgt := 24) d_248_161 (by decide) ?_
  exact kk

theorem k_248_164 {X : GX} {d : Nat} {h : Hp} {d' : Nat} {Q' : Hp → Prop} (hdd : d' < d) (hC : CV d' 231 [.ref 84] h Q') (kk : ∀ h', Q' h' → G X d 248 168 [none, none, none, none, none, none, none] [] h') : G X d 248 164 [some (.ref 84), none, none, none, none, none, none] [] h := by
  refine g_aload_n d_248_164 rfl rfl ?_
  exact g_callVV (mj := 231) 9 [] [] d_248_165 wd_479 mo_231 mc_231 mv_231 rfl rfl rfl (Nat.le_of_ble_eq_true rfl) rfl hdd hC (fun h' q => g_mask [false, false, false, false, false, false, false] (kk h' q))

theorem k_248_168 {X : GX} {d : Nat} {h : Hp} (hq : RtX X none h) : G X d 248 168 [none, none, none, none, none, none, none] [] h := by
  exact g_retv d_248_168 rfl hq

/-! 249 PlayedTruthModel.longOf(I)I -/
theorem k_249_0 {X : GX} {d : Nat} {h : Hp} {v1 : Int32} {d' : Nat} {Q' : Int32 → Hp → Prop} (b0 : IA 85 2) (b1 : IA 85 1) (hdd : d' < d) (hC : CI d' 186 [.int ((h 85 (Int32.toNatClampNeg 2)) - (h 85 (Int32.toNatClampNeg 1))), .int 0, .int 16] h Q') (kk : ∀ x h', Q' x h' → G X d 249 21 [none, none] [.int x, .int 0, .int v1] h') : G X d 249 0 [some (.ref 84), some (.int v1)] [] h := by
  refine g_iload_n d_249_0 rfl rfl ?_
  refine g_iconst (v := 0) d_249_1 (by decide) ?_
  refine g_aload_n d_249_2 rfl rfl ?_
  refine g_getf (ci := 9) (k := 0) d_249_3 wd_355 (Nat.le_of_ble_eq_true rfl) rfl rfl ?_
  refine g_iconst (v := 2) d_249_6 (by decide) ?_
  refine g_iald d_249_7 b0 ?_
  refine g_aload_n d_249_8 rfl rfl ?_
  refine g_getf (ci := 9) (k := 0) d_249_9 wd_355 (Nat.le_of_ble_eq_true rfl) rfl rfl ?_
  refine g_iconst (v := 1) d_249_12 (by decide) ?_
  refine g_iald d_249_13 b1 ?_
  refine g_isub d_249_14 ?_
  refine g_iconst (v := 0) d_249_15 (by decide) ?_
  refine g_bipush (v := 16) d_249_16 (by decide) ?_
  exact g_callSI (mj := 186) [.int ((h 85 (Int32.toNatClampNeg 2)) - (h 85 (Int32.toNatClampNeg 1))), .int 0, .int 16] [.int 0, .int v1] d_249_18 wd_406 mo_186 mc_186 mv_186 rfl rfl (Nat.le_of_ble_eq_true rfl)  hdd hC (fun x h' q => g_mask [false, false] (kk x h' q))

theorem k_249_21 {X : GX} {d : Nat} {h : Hp} {s0 : Int32} {s1 : Int32} {s2 : Int32} {d' : Nat} {Q' : Int32 → Hp → Prop} (hdd : d' < d) (hC : CI d' 186 [.int s2, .int s1, .int s0] h Q') (kk : ∀ x h', Q' x h' → G X d 249 24 [none, none] [.int x] h') : G X d 249 21 [none, none] [.int s0, .int s1, .int s2] h := by
  exact g_callSI (mj := 186) [.int s2, .int s1, .int s0] [] d_249_21 wd_406 mo_186 mc_186 mv_186 rfl rfl (Nat.le_of_ble_eq_true rfl)  hdd hC kk

theorem k_249_24 {X : GX} {d : Nat} {h : Hp} {s0 : Int32} (hq : RtX X (some (.int s0)) h) : G X d 249 24 [none, none] [.int s0] h := by
  exact g_reti d_249_24 rfl hq

/-! 250 PlayedTruthModel.plansOf(I)I -/
theorem k_250_0 {X : GX} {d : Nat} {h : Hp} {v1 : Int32} (kk : G X d 250 4 [some (.ref 84), some (.int v1), some (.int 1), some (.int 0)] [] h) : G X d 250 0 [some (.ref 84), some (.int v1), none, none] [] h := by
  refine g_iconst (v := 1) d_250_0 (by decide) ?_
  refine g_istore_n d_250_1 rfl (Nat.le_of_ble_eq_true rfl) rfl ?_
  refine g_iconst (v := 0) d_250_2 (by decide) ?_
  refine g_istore_n d_250_3 rfl (Nat.le_of_ble_eq_true rfl) rfl ?_
  exact kk

theorem k_250_4 {X : GX} {d : Nat} {h : Hp} {v1 : Int32} {v2 : Int32} {v3 : Int32} {d' : Nat} {Q' : Int32 → Hp → Prop} (hdd : d' < d) (hC : CI d' 249 [.ref 84, .int v1] h Q') (kk : ∀ x h', Q' x h' → G X d 250 10 [some (.ref 84), some (.int v1), some (.int v2), some (.int v3)] [.int x, .int v3] h') : G X d 250 4 [some (.ref 84), some (.int v1), some (.int v2), some (.int v3)] [] h := by
  refine g_iload_n d_250_4 rfl rfl ?_
  refine g_aload_n d_250_5 rfl rfl ?_
  refine g_iload_n d_250_6 rfl rfl ?_
  exact g_callVI (mj := 249) 9 [.int v1] [.int v3] d_250_7 wd_500 mo_249 mc_249 mv_249 rfl rfl rfl (Nat.le_of_ble_eq_true rfl) rfl hdd hC kk

theorem k_250_10 {X : GX} {d : Nat} {h : Hp} {v1 : Int32} {v2 : Int32} {v3 : Int32} {s0 : Int32} {s1 : Int32} (kt : s0 ≤ s1 → G X d 250 30 [none, none, some (.int v2), none] [] h) (kf : ¬ s0 ≤ s1 → G X d 250 13 [some (.ref 84), some (.int v1), some (.int v2), some (.int v3)] [] h) : G X d 250 10 [some (.ref 84), some (.int v1), some (.int v2), some (.int v3)] [.int s0, .int s1] h := by
  exact g_icmp_ge (tgt := 30) d_250_10 (by decide) (fun q => g_mask [false, false, true, false] (kt q)) kf

theorem k_250_13 {X : GX} {d : Nat} {h : Hp} {v1 : Int32} {v2 : Int32} {v3 : Int32} (b0 : IA 85 0) (kk : G X d 250 4 [some (.ref 84), some (.int v1), some (.int (v2 * ((h 85 (Int32.toNatClampNeg 0)) + 1))), some (.int (v3 + 1))] [] h) : G X d 250 13 [some (.ref 84), some (.int v1), some (.int v2), some (.int v3)] [] h := by
  refine g_iload_n d_250_13 rfl rfl ?_
  refine g_aload_n d_250_14 rfl rfl ?_
  refine g_getf (ci := 9) (k := 0) d_250_15 wd_355 (Nat.le_of_ble_eq_true rfl) rfl rfl ?_
  refine g_iconst (v := 0) d_250_18 (by decide) ?_
  refine g_iald d_250_19 b0 ?_
  refine g_iconst (v := 1) d_250_20 (by decide) ?_
  refine g_iadd d_250_21 ?_
  refine g_imul d_250_22 ?_
  refine g_istore_n d_250_23 rfl (Nat.le_of_ble_eq_true rfl) rfl ?_
  refine g_iinc (w := 1) d_250_24 rfl (by decide) (Nat.le_of_ble_eq_true rfl) rfl ?_
  refine g_goto (tgt := 4) d_250_27 (by decide) ?_
  exact kk

theorem k_250_30 {X : GX} {d : Nat} {h : Hp} {v2 : Int32} (hq : RtX X (some (.int v2)) h) : G X d 250 30 [none, none, some (.int v2), none] [] h := by
  refine g_iload_n d_250_30 rfl rfl ?_
  exact g_reti d_250_31 rfl hq

/-! 251 PlayedTruthModel.actsOf(II)V -/
theorem k_251_0 {X : GX} {d : Nat} {h : Hp} {v1 : Int32} {v2 : Int32} (kk : G X d 251 7 [some (.ref 84), none, none, some (.int v1), some (.int (v2 - 1))] [] h) : G X d 251 0 [some (.ref 84), some (.int v1), some (.int v2), none, none] [] h := by
  refine g_iload_n d_251_0 rfl rfl ?_
  refine g_istore_n d_251_1 rfl (Nat.le_of_ble_eq_true rfl) rfl ?_
  refine g_iload_n d_251_2 rfl rfl ?_
  refine g_iconst (v := 1) d_251_3 (by decide) ?_
  refine g_isub d_251_4 ?_
  refine g_istore d_251_5 (Nat.le_of_ble_eq_true rfl) rfl ?_
  exact g_mask [true, false, false, true, true] kk

theorem k_251_7 {X : GX} {d : Nat} {h : Hp} {v3 : Int32} {v4 : Int32} (kt : v4 < 0 → G X d 251 46 [none, none, none, none, none] [] h) (kf : ¬ v4 < 0 → G X d 251 12 [some (.ref 84), none, none, some (.int v3), some (.int v4)] [] h) : G X d 251 7 [some (.ref 84), none, none, some (.int v3), some (.int v4)] [] h := by
  refine g_iload d_251_7 rfl ?_
  exact g_if_lt (tgt := 46) d_251_9 (by decide) (fun q => g_mask [false, false, false, false, false] (kt q)) kf

theorem k_251_12 {X : GX} {d : Nat} {h : Hp} {v3 : Int32} {v4 : Int32} (b0 : IA 85 0) (n1 : ¬ ((h 85 (Int32.toNatClampNeg 0)) + 1) = 0) (b2 : IA 92 v4) (n3 : ¬ (((wr h 92 (Int32.toNatClampNeg v4) (v3 - v3 / ((h 85 (Int32.toNatClampNeg 0)) + 1) * ((h 85 (Int32.toNatClampNeg 0)) + 1))) 85 (Int32.toNatClampNeg 0)) + 1) = 0) (kk : G X d 251 7 [some (.ref 84), none, none, some (.int (v3 / (((wr h 92 (Int32.toNatClampNeg v4) (v3 - v3 / ((h 85 (Int32.toNatClampNeg 0)) + 1) * ((h 85 (Int32.toNatClampNeg 0)) + 1))) 85 (Int32.toNatClampNeg 0)) + 1))), some (.int (v4 + (-1)))] [] (wr h 92 (Int32.toNatClampNeg v4) (v3 - v3 / ((h 85 (Int32.toNatClampNeg 0)) + 1) * ((h 85 (Int32.toNatClampNeg 0)) + 1)))) : G X d 251 12 [some (.ref 84), none, none, some (.int v3), some (.int v4)] [] h := by
  refine g_aload_n d_251_12 rfl rfl ?_
  refine g_getf (ci := 9) (k := 18) d_251_13 wd_373 (Nat.le_of_ble_eq_true rfl) rfl rfl ?_
  refine g_iload d_251_16 rfl ?_
  refine g_iload_n d_251_18 rfl rfl ?_
  refine g_aload_n d_251_19 rfl rfl ?_
  refine g_getf (ci := 9) (k := 0) d_251_20 wd_355 (Nat.le_of_ble_eq_true rfl) rfl rfl ?_
  refine g_iconst (v := 0) d_251_23 (by decide) ?_
  refine g_iald d_251_24 b0 ?_
  refine g_iconst (v := 1) d_251_25 (by decide) ?_
  refine g_iadd d_251_26 ?_
  refine g_irem d_251_27 n1 ?_
  refine g_iast d_251_28 b2 ?_
  refine g_iload_n d_251_29 rfl rfl ?_
  refine g_aload_n d_251_30 rfl rfl ?_
  refine g_getf (ci := 9) (k := 0) d_251_31 wd_355 (Nat.le_of_ble_eq_true rfl) rfl rfl ?_
  refine g_iconst (v := 0) d_251_34 (by decide) ?_
  refine g_iald d_251_35 b0 ?_
  refine g_iconst (v := 1) d_251_36 (by decide) ?_
  refine g_iadd d_251_37 ?_
  refine g_idiv d_251_38 n3 ?_
  refine g_istore_n d_251_39 rfl (Nat.le_of_ble_eq_true rfl) rfl ?_
  refine g_iinc (w := (-1)) d_251_40 rfl (by decide) (Nat.le_of_ble_eq_true rfl) rfl ?_
  refine g_goto (tgt := 7) d_251_43 (by decide) ?_
  exact kk

theorem k_251_46 {X : GX} {d : Nat} {h : Hp} (hq : RtX X none h) : G X d 251 46 [none, none, none, none, none] [] h := by
  exact g_retv d_251_46 rfl hq

/-! 252 PlayedTruthModel.ith(II)I -/
theorem k_252_0 {X : GX} {d : Nat} {h : Hp} {v1 : Int32} {v2 : Int32} {d' : Nat} {Q' : Int32 → Hp → Prop} (hdd : d' < d) (hC : CI d' 247 [.int v1] h Q') (kk : ∀ x h', Q' x h' → G X d 252 4 [some (.ref 84), some (.int v1), some (.int v2)] [.int x] h') : G X d 252 0 [some (.ref 84), some (.int v1), some (.int v2)] [] h := by
  refine g_iload_n d_252_0 rfl rfl ?_
  exact g_callSI (mj := 247) [.int v1] [] d_252_1 wd_497 mo_247 mc_247 mv_247 rfl rfl (Nat.le_of_ble_eq_true rfl)  hdd hC kk

theorem k_252_4 {X : GX} {d : Nat} {h : Hp} {v1 : Int32} {v2 : Int32} {s0 : Int32} (kt : s0 = 0 → G X d 252 19 [none, none, none] [] h) (kf : ¬ s0 = 0 → G X d 252 7 [some (.ref 84), some (.int v1), some (.int v2)] [] h) : G X d 252 4 [some (.ref 84), some (.int v1), some (.int v2)] [.int s0] h := by
  exact g_if_eq (tgt := 19) d_252_4 (by decide) (fun q => g_mask [false, false, false] (kt q)) kf

theorem k_252_7 {X : GX} {d : Nat} {h : Hp} {v1 : Int32} {v2 : Int32} {d' : Nat} {Q' : Int32 → Hp → Prop} (hdd : d' < d) (hC : CI d' 177 [.long (Int32.toInt64 v2), .long 0, .long 3] h Q') (kk : ∀ x h', Q' x h' → G X d 252 16 [some (.ref 84), some (.int v1), some (.int v2)] [.int x] h') : G X d 252 7 [some (.ref 84), some (.int v1), some (.int v2)] [] h := by
  refine g_iload_n d_252_7 rfl rfl ?_
  refine g_i2l d_252_8 ?_
  refine g_lconst (v := 0) d_252_9 (by decide) ?_
  refine g_ldc2_w (v := 3) d_252_10 wd_504 ?_
  exact g_callSI (mj := 177) [.long (Int32.toInt64 v2), .long 0, .long 3] [] d_252_13 wd_395 mo_177 mc_177 mv_177 rfl rfl (Nat.le_of_ble_eq_true rfl)  hdd hC kk

theorem k_252_16 {X : GX} {d : Nat} {h : Hp} {v1 : Int32} {v2 : Int32} {s0 : Int32} (kt : ¬ s0 = 0 → G X d 252 21 [some (.ref 84), some (.int v1), some (.int v2)] [] h) (kf : s0 = 0 → G X d 252 19 [none, none, none] [] h) : G X d 252 16 [some (.ref 84), some (.int v1), some (.int v2)] [.int s0] h := by
  exact g_if_ne (tgt := 21) d_252_16 (by decide) kt (fun q => g_mask [false, false, false] (kf q))

theorem k_252_19 {X : GX} {d : Nat} {h : Hp} (hq : RtX X (some (.int ((-1)))) h) : G X d 252 19 [none, none, none] [] h := by
  refine g_iconst (v := (-1)) d_252_19 (by decide) ?_
  exact g_reti d_252_20 rfl hq

theorem k_252_21 {X : GX} {d : Nat} {h : Hp} {v1 : Int32} {v2 : Int32} {d' : Nat} {Q' : Int32 → Hp → Prop} (hdd : d' < d) (hC : CI d' 249 [.ref 84, .int v1] h Q') (kk : ∀ x h', Q' x h' → G X d 252 27 [some (.ref 84), some (.int v1), some (.int v2)] [.int x, .int v2] h') : G X d 252 21 [some (.ref 84), some (.int v1), some (.int v2)] [] h := by
  refine g_iload_n d_252_21 rfl rfl ?_
  refine g_aload_n d_252_22 rfl rfl ?_
  refine g_iload_n d_252_23 rfl rfl ?_
  exact g_callVI (mj := 249) 9 [.int v1] [.int v2] d_252_24 wd_500 mo_249 mc_249 mv_249 rfl rfl rfl (Nat.le_of_ble_eq_true rfl) rfl hdd hC kk

theorem k_252_27 {X : GX} {d : Nat} {h : Hp} {v1 : Int32} {v2 : Int32} {s0 : Int32} {s1 : Int32} (kt : s1 < s0 → G X d 252 33 [some (.ref 84), some (.int v1), some (.int v2)] [] h) (kf : ¬ s1 < s0 → G X d 252 30 [none, none, none] [] h) : G X d 252 27 [some (.ref 84), some (.int v1), some (.int v2)] [.int s0, .int s1] h := by
  exact g_icmp_lt (tgt := 33) d_252_27 (by decide) kt (fun q => g_mask [false, false, false] (kf q))

theorem k_252_30 {X : GX} {d : Nat} {h : Hp} (hq : RtX X (some (.int ((-3)))) h) : G X d 252 30 [none, none, none] [] h := by
  refine g_bipush (v := (-3)) d_252_30 (by decide) ?_
  exact g_reti d_252_32 rfl hq

theorem k_252_33 {X : GX} {d : Nat} {h : Hp} {v1 : Int32} {v2 : Int32} {d' : Nat} {Q' : Hp → Prop} (hdd : d' < d) (hC : CV d' 248 [.ref 84, .int v1] h Q') (kk : ∀ h', Q' h' → G X d 252 38 [some (.ref 84), some (.int v1), some (.int v2)] [] h') : G X d 252 33 [some (.ref 84), some (.int v1), some (.int v2)] [] h := by
  refine g_aload_n d_252_33 rfl rfl ?_
  refine g_iload_n d_252_34 rfl rfl ?_
  exact g_callVV (mj := 248) 9 [.int v1] [] d_252_35 wd_499 mo_248 mc_248 mv_248 rfl rfl rfl (Nat.le_of_ble_eq_true rfl) rfl hdd hC kk

theorem k_252_38 {X : GX} {d : Nat} {h : Hp} {v1 : Int32} {v2 : Int32} {d' : Nat} {Q' : Int32 → Hp → Prop} (hdd : d' < d) (hC : CI d' 249 [.ref 84, .int v1] h Q') (kk : ∀ x h', Q' x h' → G X d 252 48 [some (.ref 84), none, some (.int v2)] [.int x, .int (h 84 20), .ref 84] h') : G X d 252 38 [some (.ref 84), some (.int v1), some (.int v2)] [] h := by
  refine g_aload_n d_252_38 rfl rfl ?_
  refine g_aload_n d_252_39 rfl rfl ?_
  refine g_getf (ci := 9) (k := 20) d_252_40 wd_375 (Nat.le_of_ble_eq_true rfl) rfl rfl ?_
  refine g_aload_n d_252_43 rfl rfl ?_
  refine g_iload_n d_252_44 rfl rfl ?_
  exact g_callVI (mj := 249) 9 [.int v1] [.int (h 84 20), .ref 84] d_252_45 wd_500 mo_249 mc_249 mv_249 rfl rfl rfl (Nat.le_of_ble_eq_true rfl) rfl hdd hC (fun x h' q => g_mask [true, false, true] (kk x h' q))

theorem k_252_48 {X : GX} {d : Nat} {h : Hp} {v2 : Int32} {s0 : Int32} {s1 : Int32} {s2 : Nat} {d' : Nat} {Q' : Hp → Prop} (o0 : sh s2 = (1, 9)) (hdd : d' < d) (hC : CV d' 251 [.ref s2, .int s1, .int s0] h Q') (kk : ∀ h', Q' h' → G X d 252 51 [some (.ref 84), none, some (.int v2)] [] h') : G X d 252 48 [some (.ref 84), none, some (.int v2)] [.int s0, .int s1, .ref s2] h := by
  exact g_callVV (mj := 251) 9 [.int s1, .int s0] [] d_252_48 wd_502 mo_251 mc_251 mv_251 rfl rfl rfl (Nat.le_of_ble_eq_true rfl) o0 hdd hC kk

theorem k_252_51 {X : GX} {d : Nat} {h : Hp} {v2 : Int32} (b0 : IA 92 v2) (hq : RtX X (some (.int (h 92 (Int32.toNatClampNeg v2)))) h) : G X d 252 51 [some (.ref 84), none, some (.int v2)] [] h := by
  refine g_aload_n d_252_51 rfl rfl ?_
  refine g_getf (ci := 9) (k := 18) d_252_52 wd_373 (Nat.le_of_ble_eq_true rfl) rfl rfl ?_
  refine g_iload_n d_252_55 rfl rfl ?_
  refine g_iald d_252_56 b0 ?_
  exact g_reti d_252_57 rfl hq

/-! 253 PlayedTruthModel.ways(I)I -/
theorem k_253_0 {X : GX} {d : Nat} {h : Hp} {v1 : Int32} {d' : Nat} {Q' : Int32 → Hp → Prop} (hdd : d' < d) (hC : CI d' 247 [.int v1] h Q') (kk : ∀ x h', Q' x h' → G X d 253 4 [some (.ref 84), some (.int v1)] [.int x] h') : G X d 253 0 [some (.ref 84), some (.int v1)] [] h := by
  refine g_iload_n d_253_0 rfl rfl ?_
  exact g_callSI (mj := 247) [.int v1] [] d_253_1 wd_497 mo_247 mc_247 mv_247 rfl rfl (Nat.le_of_ble_eq_true rfl)  hdd hC kk

theorem k_253_4 {X : GX} {d : Nat} {h : Hp} {v1 : Int32} {s0 : Int32} (kt : ¬ s0 = 0 → G X d 253 9 [some (.ref 84), some (.int v1)] [] h) (kf : s0 = 0 → G X d 253 7 [none, none] [] h) : G X d 253 4 [some (.ref 84), some (.int v1)] [.int s0] h := by
  exact g_if_ne (tgt := 9) d_253_4 (by decide) kt (fun q => g_mask [false, false] (kf q))

theorem k_253_7 {X : GX} {d : Nat} {h : Hp} (hq : RtX X (some (.int ((-1)))) h) : G X d 253 7 [none, none] [] h := by
  refine g_iconst (v := (-1)) d_253_7 (by decide) ?_
  exact g_reti d_253_8 rfl hq

theorem k_253_9 {X : GX} {d : Nat} {h : Hp} {v1 : Int32} {d' : Nat} {Q' : Hp → Prop} (hdd : d' < d) (hC : CV d' 248 [.ref 84, .int v1] h Q') (kk : ∀ h', Q' h' → G X d 253 14 [some (.ref 84), none] [] h') : G X d 253 9 [some (.ref 84), some (.int v1)] [] h := by
  refine g_aload_n d_253_9 rfl rfl ?_
  refine g_iload_n d_253_10 rfl rfl ?_
  exact g_callVV (mj := 248) 9 [.int v1] [] d_253_11 wd_499 mo_248 mc_248 mv_248 rfl rfl rfl (Nat.le_of_ble_eq_true rfl) rfl hdd hC (fun h' q => g_mask [true, false] (kk h' q))

theorem k_253_14 {X : GX} {d : Nat} {h : Hp} (hq : RtX X (some (.int (h 84 21))) h) : G X d 253 14 [some (.ref 84), none] [] h := by
  refine g_aload_n d_253_14 rfl rfl ?_
  refine g_getf (ci := 9) (k := 21) d_253_15 wd_376 (Nat.le_of_ble_eq_true rfl) rfl rfl ?_
  exact g_reti d_253_18 rfl hq

/-! 254 PlayedTruthModel.bill(II)I -/
theorem k_254_0 {X : GX} {d : Nat} {h : Hp} {v1 : Int32} {v2 : Int32} {d' : Nat} {Q' : Int32 → Hp → Prop} (hdd : d' < d) (hC : CI d' 247 [.int v1] h Q') (kk : ∀ x h', Q' x h' → G X d 254 4 [some (.ref 84), some (.int v1), some (.int v2)] [.int x] h') : G X d 254 0 [some (.ref 84), some (.int v1), some (.int v2)] [] h := by
  refine g_iload_n d_254_0 rfl rfl ?_
  exact g_callSI (mj := 247) [.int v1] [] d_254_1 wd_497 mo_247 mc_247 mv_247 rfl rfl (Nat.le_of_ble_eq_true rfl)  hdd hC kk

theorem k_254_4 {X : GX} {d : Nat} {h : Hp} {v1 : Int32} {v2 : Int32} {s0 : Int32} (kt : s0 = 0 → G X d 254 15 [none, none, none] [] h) (kf : ¬ s0 = 0 → G X d 254 7 [some (.ref 84), some (.int v1), some (.int v2)] [] h) : G X d 254 4 [some (.ref 84), some (.int v1), some (.int v2)] [.int s0] h := by
  exact g_if_eq (tgt := 15) d_254_4 (by decide) (fun q => g_mask [false, false, false] (kt q)) kf

theorem k_254_7 {X : GX} {d : Nat} {h : Hp} {v1 : Int32} {v2 : Int32} {d' : Nat} {Q' : Int32 → Hp → Prop} (hdd : d' < d) (hC : CI d' 255 [.ref 84, .int v2] h Q') (kk : ∀ x h', Q' x h' → G X d 254 12 [some (.ref 84), some (.int v1), some (.int v2)] [.int x] h') : G X d 254 7 [some (.ref 84), some (.int v1), some (.int v2)] [] h := by
  refine g_aload_n d_254_7 rfl rfl ?_
  refine g_iload_n d_254_8 rfl rfl ?_
  exact g_callVI (mj := 255) 9 [.int v2] [] d_254_9 wd_507 mo_255 mc_255 mv_255 rfl rfl rfl (Nat.le_of_ble_eq_true rfl) rfl hdd hC kk

theorem k_254_12 {X : GX} {d : Nat} {h : Hp} {v1 : Int32} {v2 : Int32} {s0 : Int32} (kt : ¬ s0 = 0 → G X d 254 17 [some (.ref 84), some (.int v1), some (.int v2)] [] h) (kf : s0 = 0 → G X d 254 15 [none, none, none] [] h) : G X d 254 12 [some (.ref 84), some (.int v1), some (.int v2)] [.int s0] h := by
  exact g_if_ne (tgt := 17) d_254_12 (by decide) kt (fun q => g_mask [false, false, false] (kf q))

theorem k_254_15 {X : GX} {d : Nat} {h : Hp} (hq : RtX X (some (.int ((-1)))) h) : G X d 254 15 [none, none, none] [] h := by
  refine g_iconst (v := (-1)) d_254_15 (by decide) ?_
  exact g_reti d_254_16 rfl hq

theorem k_254_17 {X : GX} {d : Nat} {h : Hp} {v1 : Int32} {v2 : Int32} {d' : Nat} {Q' : Hp → Prop} (hdd : d' < d) (hC : CV d' 256 [.ref 84, .int v1, .int v2] h Q') (kk : ∀ h', Q' h' → G X d 254 23 [some (.ref 84), none, none] [] h') : G X d 254 17 [some (.ref 84), some (.int v1), some (.int v2)] [] h := by
  refine g_aload_n d_254_17 rfl rfl ?_
  refine g_iload_n d_254_18 rfl rfl ?_
  refine g_iload_n d_254_19 rfl rfl ?_
  exact g_callVV (mj := 256) 9 [.int v1, .int v2] [] d_254_20 wd_508 mo_256 mc_256 mv_256 rfl rfl rfl (Nat.le_of_ble_eq_true rfl) rfl hdd hC (fun h' q => g_mask [true, false, false] (kk h' q))

theorem k_254_23 {X : GX} {d : Nat} {h : Hp} (hq : RtX X (some (.int (h 84 22))) h) : G X d 254 23 [some (.ref 84), none, none] [] h := by
  refine g_aload_n d_254_23 rfl rfl ?_
  refine g_getf (ci := 9) (k := 22) d_254_24 wd_377 (Nat.le_of_ble_eq_true rfl) rfl rfl ?_
  exact g_reti d_254_27 rfl hq

/-! 255 PlayedTruthModel.areScenes(I)Z -/
theorem k_255_0 {X : GX} {d : Nat} {h : Hp} {v1 : Int32} {d' : Nat} {Q' : Int32 → Hp → Prop} (b0 : IA 85 0) (hdd : d' < d) (hC : CI d' 177 [.long (Int32.toInt64 v1), .long 0, .long (Int32.toInt64 ((1 <<< ((h 85 (Int32.toNatClampNeg 0)) &&& 31)) - 1))] h Q') (kk : ∀ x h', Q' x h' → G X d 255 17 [none, none] [.int x] h') : G X d 255 0 [some (.ref 84), some (.int v1)] [] h := by
  refine g_iload_n d_255_0 rfl rfl ?_
  refine g_i2l d_255_1 ?_
  refine g_lconst (v := 0) d_255_2 (by decide) ?_
  refine g_iconst (v := 1) d_255_3 (by decide) ?_
  refine g_aload_n d_255_4 rfl rfl ?_
  refine g_getf (ci := 9) (k := 0) d_255_5 wd_355 (Nat.le_of_ble_eq_true rfl) rfl rfl ?_
  refine g_iconst (v := 0) d_255_8 (by decide) ?_
  refine g_iald d_255_9 b0 ?_
  refine g_ishl d_255_10 ?_
  refine g_iconst (v := 1) d_255_11 (by decide) ?_
  refine g_isub d_255_12 ?_
  refine g_i2l d_255_13 ?_
  exact g_callSI (mj := 177) [.long (Int32.toInt64 v1), .long 0, .long (Int32.toInt64 ((1 <<< ((h 85 (Int32.toNatClampNeg 0)) &&& 31)) - 1))] [] d_255_14 wd_395 mo_177 mc_177 mv_177 rfl rfl (Nat.le_of_ble_eq_true rfl)  hdd hC (fun x h' q => g_mask [false, false] (kk x h' q))

theorem k_255_17 {X : GX} {d : Nat} {h : Hp} {s0 : Int32} (z0 : s0 = 0 ∨ s0 = 1) (hq : RtX X (some (.int s0)) h) : G X d 255 17 [none, none] [.int s0] h := by
  exact g_retz d_255_17 rfl z0 hq

/-! 256 PlayedTruthModel.findBills(II)V -/
theorem k_256_0 {X : GX} {d : Nat} {h : Hp} {v1 : Int32} {v2 : Int32} {d' : Nat} {Q' : Int32 → Hp → Prop} (hdd : d' < d) (hC : CI d' 249 [.ref 84, .int v1] h Q') (kk : ∀ x h', Q' x h' → G X d 256 5 [some (.ref 84), some (.int v1), some (.int v2), none, none, none, none, none] [.int x] h') : G X d 256 0 [some (.ref 84), some (.int v1), some (.int v2), none, none, none, none, none] [] h := by
  refine g_aload_n d_256_0 rfl rfl ?_
  refine g_iload_n d_256_1 rfl rfl ?_
  exact g_callVI (mj := 249) 9 [.int v1] [] d_256_2 wd_500 mo_249 mc_249 mv_249 rfl rfl rfl (Nat.le_of_ble_eq_true rfl) rfl hdd hC kk

theorem k_256_5 {X : GX} {d : Nat} {h : Hp} {v1 : Int32} {v2 : Int32} {s0 : Int32} {d' : Nat} {Q' : Int32 → Hp → Prop} (hdd : d' < d) (hC : CI d' 250 [.ref 84, .int v1] h Q') (kk : ∀ x h', Q' x h' → G X d 256 11 [some (.ref 84), none, some (.int v2), some (.int s0), none, none, none, none] [.int x] h') : G X d 256 5 [some (.ref 84), some (.int v1), some (.int v2), none, none, none, none, none] [.int s0] h := by
  refine g_istore_n d_256_5 rfl (Nat.le_of_ble_eq_true rfl) rfl ?_
  refine g_aload_n d_256_6 rfl rfl ?_
  refine g_iload_n d_256_7 rfl rfl ?_
  exact g_callVI (mj := 250) 9 [.int v1] [] d_256_8 wd_501 mo_250 mc_250 mv_250 rfl rfl rfl (Nat.le_of_ble_eq_true rfl) rfl hdd hC (fun x h' q => g_mask [true, false, true, true, false, false, false, false] (kk x h' q))

theorem k_256_11 {X : GX} {d : Nat} {h : Hp} {v2 : Int32} {v3 : Int32} {s0 : Int32} {d' : Nat} {Q' : Hp → Prop} (hdd : d' < d) (hC : CV d' 229 [.ref 84] (wr (wr h 84 22 ((-3))) 84 23 0) Q') (kk : ∀ h', Q' h' → G X d 256 28 [some (.ref 84), none, some (.int v2), some (.int v3), some (.int s0), none, none, none] [] h') : G X d 256 11 [some (.ref 84), none, some (.int v2), some (.int v3), none, none, none, none] [.int s0] h := by
  refine g_istore d_256_11 (Nat.le_of_ble_eq_true rfl) rfl ?_
  refine g_aload_n d_256_13 rfl rfl ?_
  refine g_bipush (v := (-3)) d_256_14 (by decide) ?_
  refine g_putf (ci := 9) (k := 22) d_256_16 wd_377 (Nat.le_of_ble_eq_true rfl) (Nat.le_of_ble_eq_true rfl) rfl rfl (Or.inl ⟨rfl, rfl⟩) rfl ?_
  refine g_aload_n d_256_19 rfl rfl ?_
  refine g_iconst (v := 0) d_256_20 (by decide) ?_
  refine g_putf (ci := 9) (k := 23) d_256_21 wd_378 (Nat.le_of_ble_eq_true rfl) (Nat.le_of_ble_eq_true rfl) rfl rfl (Or.inl ⟨rfl, rfl⟩) rfl ?_
  refine g_aload_n d_256_24 rfl rfl ?_
  exact g_callVV (mj := 229) 9 [] [] d_256_25 wd_477 mo_229 mc_229 mv_229 rfl rfl rfl (Nat.le_of_ble_eq_true rfl) rfl hdd hC kk

theorem k_256_28 {X : GX} {d : Nat} {h : Hp} {v2 : Int32} {v3 : Int32} {v4 : Int32} (kk : G X d 256 31 [some (.ref 84), none, some (.int v2), some (.int v3), some (.int v4), some (.int 0), none, none] [] h) : G X d 256 28 [some (.ref 84), none, some (.int v2), some (.int v3), some (.int v4), none, none, none] [] h := by
  refine g_iconst (v := 0) d_256_28 (by decide) ?_
  refine g_istore d_256_29 (Nat.le_of_ble_eq_true rfl) rfl ?_
  exact kk

theorem k_256_31 {X : GX} {d : Nat} {h : Hp} {v2 : Int32} {v3 : Int32} {v4 : Int32} {v5 : Int32} (kt : v4 ≤ v5 → G X d 256 160 [some (.ref 84), none, none, none, none, none, none, none] [] h) (kf : ¬ v4 ≤ v5 → G X d 256 38 [some (.ref 84), none, some (.int v2), some (.int v3), some (.int v4), some (.int v5), none, none] [] h) : G X d 256 31 [some (.ref 84), none, some (.int v2), some (.int v3), some (.int v4), some (.int v5), none, none] [] h := by
  refine g_iload d_256_31 rfl ?_
  refine g_iload d_256_33 rfl ?_
  exact g_icmp_ge (tgt := 160) d_256_35 (by decide) (fun q => g_mask [true, false, false, false, false, false, false, false] (kt q)) kf

theorem k_256_38 {X : GX} {d : Nat} {h : Hp} {v2 : Int32} {v3 : Int32} {v4 : Int32} {v5 : Int32} {d' : Nat} {Q' : Hp → Prop} (hdd : d' < d) (hC : CV d' 251 [.ref 84, .int v5, .int v3] h Q') (kk : ∀ h', Q' h' → G X d 256 45 [some (.ref 84), none, some (.int v2), some (.int v3), some (.int v4), some (.int v5), none, none] [] h') : G X d 256 38 [some (.ref 84), none, some (.int v2), some (.int v3), some (.int v4), some (.int v5), none, none] [] h := by
  refine g_aload_n d_256_38 rfl rfl ?_
  refine g_iload d_256_39 rfl ?_
  refine g_iload_n d_256_41 rfl rfl ?_
  exact g_callVV (mj := 251) 9 [.int v5, .int v3] [] d_256_42 wd_502 mo_251 mc_251 mv_251 rfl rfl rfl (Nat.le_of_ble_eq_true rfl) rfl hdd hC kk

theorem k_256_45 {X : GX} {d : Nat} {h : Hp} {v2 : Int32} {v3 : Int32} {v4 : Int32} {v5 : Int32} (kk : G X d 256 51 [some (.ref 84), none, some (.int v2), some (.int v3), some (.int v4), some (.int v5), some (.int 0), some (.int 0)] [] h) : G X d 256 45 [some (.ref 84), none, some (.int v2), some (.int v3), some (.int v4), some (.int v5), none, none] [] h := by
  refine g_iconst (v := 0) d_256_45 (by decide) ?_
  refine g_istore d_256_46 (Nat.le_of_ble_eq_true rfl) rfl ?_
  refine g_iconst (v := 0) d_256_48 (by decide) ?_
  refine g_istore d_256_49 (Nat.le_of_ble_eq_true rfl) rfl ?_
  exact kk

theorem k_256_51 {X : GX} {d : Nat} {h : Hp} {v2 : Int32} {v3 : Int32} {v4 : Int32} {v5 : Int32} {v6 : Int32} {v7 : Int32} (kt : v3 ≤ v7 → G X d 256 95 [some (.ref 84), none, some (.int v2), some (.int v3), some (.int v4), some (.int v5), some (.int v6), none] [] h) (kf : ¬ v3 ≤ v7 → G X d 256 57 [some (.ref 84), none, some (.int v2), some (.int v3), some (.int v4), some (.int v5), some (.int v6), some (.int v7)] [] h) : G X d 256 51 [some (.ref 84), none, some (.int v2), some (.int v3), some (.int v4), some (.int v5), some (.int v6), some (.int v7)] [] h := by
  refine g_iload d_256_51 rfl ?_
  refine g_iload_n d_256_53 rfl rfl ?_
  exact g_icmp_ge (tgt := 95) d_256_54 (by decide) (fun q => g_mask [true, false, true, true, true, true, true, false] (kt q)) kf

theorem k_256_57 {X : GX} {d : Nat} {h : Hp} {v2 : Int32} {v3 : Int32} {v4 : Int32} {v5 : Int32} {v6 : Int32} {v7 : Int32} (b0 : IA 92 v7) (kt : (h 92 (Int32.toNatClampNeg v7)) ≤ 0 → G X d 256 73 [some (.ref 84), none, some (.int v2), some (.int v3), some (.int v4), some (.int v5), none, some (.int v7)] [.int v6] h) (kf : ¬ (h 92 (Int32.toNatClampNeg v7)) ≤ 0 → G X d 256 69 [some (.ref 84), none, some (.int v2), some (.int v3), some (.int v4), some (.int v5), none, some (.int v7)] [.int v6] h) : G X d 256 57 [some (.ref 84), none, some (.int v2), some (.int v3), some (.int v4), some (.int v5), some (.int v6), some (.int v7)] [] h := by
  refine g_iload d_256_57 rfl ?_
  refine g_aload_n d_256_59 rfl rfl ?_
  refine g_getf (ci := 9) (k := 18) d_256_60 wd_373 (Nat.le_of_ble_eq_true rfl) rfl rfl ?_
  refine g_iload d_256_63 rfl ?_
  refine g_iald d_256_65 b0 ?_
  exact g_if_le (tgt := 73) d_256_66 (by decide) (fun q => g_mask [true, false, true, true, true, true, false, true] (kt q)) (fun q => g_mask [true, false, true, true, true, true, false, true] (kf q))

theorem k_256_69 {X : GX} {d : Nat} {h : Hp} {v2 : Int32} {v3 : Int32} {v4 : Int32} {v5 : Int32} {v7 : Int32} {s0 : Int32} {d' : Nat} {Q' : Int32 → Hp → Prop} (b0 : IA 92 v7) (hdd : d' < d) (hC : CI d' 226 [.ref 84, .int (h 92 (Int32.toNatClampNeg v7))] h Q') (kk : ∀ x h', Q' x h' → G X d 256 88 [some (.ref 84), none, some (.int v2), some (.int v3), some (.int v4), some (.int v5), some (.int (s0 + 1)), some (.int v7)] [.int x] h') : G X d 256 69 [some (.ref 84), none, some (.int v2), some (.int v3), some (.int v4), some (.int v5), none, some (.int v7)] [.int s0] h := by
  refine g_iconst (v := 1) d_256_69 (by decide) ?_
  refine g_goto (tgt := 74) d_256_70 (by decide) ?_
  refine g_iadd d_256_74 ?_
  refine g_istore d_256_75 (Nat.le_of_ble_eq_true rfl) rfl ?_
  refine g_aload_n d_256_77 rfl rfl ?_
  refine g_aload_n d_256_78 rfl rfl ?_
  refine g_getf (ci := 9) (k := 18) d_256_79 wd_373 (Nat.le_of_ble_eq_true rfl) rfl rfl ?_
  refine g_iload d_256_82 rfl ?_
  refine g_iald d_256_84 b0 ?_
  exact g_callVI (mj := 226) 9 [.int (h 92 (Int32.toNatClampNeg v7))] [] d_256_85 wd_474 mo_226 mc_226 mv_226 rfl rfl rfl (Nat.le_of_ble_eq_true rfl) rfl hdd hC kk

theorem k_256_73 {X : GX} {d : Nat} {h : Hp} {v2 : Int32} {v3 : Int32} {v4 : Int32} {v5 : Int32} {v7 : Int32} {s0 : Int32} {d' : Nat} {Q' : Int32 → Hp → Prop} (b0 : IA 92 v7) (hdd : d' < d) (hC : CI d' 226 [.ref 84, .int (h 92 (Int32.toNatClampNeg v7))] h Q') (kk : ∀ x h', Q' x h' → G X d 256 88 [some (.ref 84), none, some (.int v2), some (.int v3), some (.int v4), some (.int v5), some (.int (s0 + 0)), some (.int v7)] [.int x] h') : G X d 256 73 [some (.ref 84), none, some (.int v2), some (.int v3), some (.int v4), some (.int v5), none, some (.int v7)] [.int s0] h := by
  refine g_iconst (v := 0) d_256_73 (by decide) ?_
  refine g_iadd d_256_74 ?_
  refine g_istore d_256_75 (Nat.le_of_ble_eq_true rfl) rfl ?_
  refine g_aload_n d_256_77 rfl rfl ?_
  refine g_aload_n d_256_78 rfl rfl ?_
  refine g_getf (ci := 9) (k := 18) d_256_79 wd_373 (Nat.le_of_ble_eq_true rfl) rfl rfl ?_
  refine g_iload d_256_82 rfl ?_
  refine g_iald d_256_84 b0 ?_
  exact g_callVI (mj := 226) 9 [.int (h 92 (Int32.toNatClampNeg v7))] [] d_256_85 wd_474 mo_226 mc_226 mv_226 rfl rfl rfl (Nat.le_of_ble_eq_true rfl) rfl hdd hC kk

theorem k_256_88 {X : GX} {d : Nat} {h : Hp} {v2 : Int32} {v3 : Int32} {v4 : Int32} {v5 : Int32} {v6 : Int32} {v7 : Int32} {s0 : Int32} (kk : G X d 256 51 [some (.ref 84), none, some (.int v2), some (.int v3), some (.int v4), some (.int v5), some (.int v6), some (.int (v7 + 1))] [] h) : G X d 256 88 [some (.ref 84), none, some (.int v2), some (.int v3), some (.int v4), some (.int v5), some (.int v6), some (.int v7)] [.int s0] h := by
  refine g_pop d_256_88 rfl ?_
  refine g_iinc (w := 1) d_256_89 rfl (by decide) (Nat.le_of_ble_eq_true rfl) rfl ?_
  refine g_goto (tgt := 51) d_256_92 (by decide) ?_
  exact kk

theorem k_256_95 {X : GX} {d : Nat} {h : Hp} {v2 : Int32} {v3 : Int32} {v4 : Int32} {v5 : Int32} {v6 : Int32} {d' : Nat} {Q' : Int32 → Hp → Prop} (hdd : d' < d) (hC : CI d' 206 [.ref 84] h Q') (kk : ∀ x h', Q' x h' → G X d 256 99 [some (.ref 84), none, some (.int v2), some (.int v3), some (.int v4), some (.int v5), some (.int v6), none] [.int x] h') : G X d 256 95 [some (.ref 84), none, some (.int v2), some (.int v3), some (.int v4), some (.int v5), some (.int v6), none] [] h := by
  refine g_aload_n d_256_95 rfl rfl ?_
  exact g_callVI (mj := 206) 9 [] [] d_256_96 wd_428 mo_206 mc_206 mv_206 rfl rfl rfl (Nat.le_of_ble_eq_true rfl) rfl hdd hC kk

theorem k_256_99 {X : GX} {d : Nat} {h : Hp} {v2 : Int32} {v3 : Int32} {v4 : Int32} {v5 : Int32} {v6 : Int32} {s0 : Int32} {d' : Nat} {Q' : Hp → Prop} (hdd : d' < d) (hC : CV d' 232 [.ref 84] h Q') (kk : ∀ h', Q' h' → G X d 256 105 [some (.ref 84), none, some (.int v2), some (.int v3), some (.int v4), some (.int v5), some (.int v6), some (.int s0)] [] h') : G X d 256 99 [some (.ref 84), none, some (.int v2), some (.int v3), some (.int v4), some (.int v5), some (.int v6), none] [.int s0] h := by
  refine g_istore d_256_99 (Nat.le_of_ble_eq_true rfl) rfl ?_
  refine g_aload_n d_256_101 rfl rfl ?_
  exact g_callVV (mj := 232) 9 [] [] d_256_102 wd_480 mo_232 mc_232 mv_232 rfl rfl rfl (Nat.le_of_ble_eq_true rfl) rfl hdd hC kk

theorem k_256_105 {X : GX} {d : Nat} {h : Hp} {v2 : Int32} {v3 : Int32} {v4 : Int32} {v5 : Int32} {v6 : Int32} {v7 : Int32} (kt : ¬ (v2 &&& (v7 ^^^ ((-1)))) = 0 → G X d 256 147 [some (.ref 84), none, some (.int v2), some (.int v3), some (.int v4), some (.int v5), none, none] [.ref 84] (wr h 84 23 ((h 84 23) ||| v7))) (kf : (v2 &&& (v7 ^^^ ((-1)))) = 0 → G X d 256 126 [some (.ref 84), none, some (.int v2), some (.int v3), some (.int v4), some (.int v5), some (.int v6), none] [.ref 84] (wr h 84 23 ((h 84 23) ||| v7))) : G X d 256 105 [some (.ref 84), none, some (.int v2), some (.int v3), some (.int v4), some (.int v5), some (.int v6), some (.int v7)] [] h := by
  refine g_aload_n d_256_105 rfl rfl ?_
  refine g_dup d_256_106 rfl ?_
  refine g_getf (ci := 9) (k := 23) d_256_107 wd_378 (Nat.le_of_ble_eq_true rfl) rfl rfl ?_
  refine g_iload d_256_110 rfl ?_
  refine g_ior d_256_112 ?_
  refine g_putf (ci := 9) (k := 23) d_256_113 wd_378 (Nat.le_of_ble_eq_true rfl) (Nat.le_of_ble_eq_true rfl) rfl rfl (Or.inl ⟨rfl, rfl⟩) rfl ?_
  refine g_aload_n d_256_116 rfl rfl ?_
  refine g_iload_n d_256_117 rfl rfl ?_
  refine g_iload d_256_118 rfl ?_
  refine g_iconst (v := (-1)) d_256_120 (by decide) ?_
  refine g_ixor d_256_121 ?_
  refine g_iand d_256_122 ?_
  exact g_if_ne (tgt := 147) d_256_123 (by decide) (fun q => g_mask [true, false, true, true, true, true, false, false] (kt q)) (fun q => g_mask [true, false, true, true, true, true, true, false] (kf q))

theorem k_256_126 {X : GX} {d : Nat} {h : Hp} {v2 : Int32} {v3 : Int32} {v4 : Int32} {v5 : Int32} {v6 : Int32} {s0 : Nat} (kt : (h 84 22) < 0 → G X d 256 142 [some (.ref 84), none, some (.int v2), some (.int v3), some (.int v4), some (.int v5), some (.int v6), none] [.ref s0] h) (kf : ¬ (h 84 22) < 0 → G X d 256 133 [some (.ref 84), none, some (.int v2), some (.int v3), some (.int v4), some (.int v5), some (.int v6), none] [.ref s0] h) : G X d 256 126 [some (.ref 84), none, some (.int v2), some (.int v3), some (.int v4), some (.int v5), some (.int v6), none] [.ref s0] h := by
  refine g_aload_n d_256_126 rfl rfl ?_
  refine g_getf (ci := 9) (k := 22) d_256_127 wd_377 (Nat.le_of_ble_eq_true rfl) rfl rfl ?_
  exact g_if_lt (tgt := 142) d_256_130 (by decide) kt kf

theorem k_256_133 {X : GX} {d : Nat} {h : Hp} {v2 : Int32} {v3 : Int32} {v4 : Int32} {v5 : Int32} {v6 : Int32} {s0 : Nat} (kt : (h 84 22) ≤ v6 → G X d 256 147 [some (.ref 84), none, some (.int v2), some (.int v3), some (.int v4), some (.int v5), none, none] [.ref s0] h) (kf : ¬ (h 84 22) ≤ v6 → G X d 256 142 [some (.ref 84), none, some (.int v2), some (.int v3), some (.int v4), some (.int v5), some (.int v6), none] [.ref s0] h) : G X d 256 133 [some (.ref 84), none, some (.int v2), some (.int v3), some (.int v4), some (.int v5), some (.int v6), none] [.ref s0] h := by
  refine g_iload d_256_133 rfl ?_
  refine g_aload_n d_256_135 rfl rfl ?_
  refine g_getf (ci := 9) (k := 22) d_256_136 wd_377 (Nat.le_of_ble_eq_true rfl) rfl rfl ?_
  exact g_icmp_ge (tgt := 147) d_256_139 (by decide) (fun q => g_mask [true, false, true, true, true, true, false, false] (kt q)) kf

theorem k_256_142 {X : GX} {d : Nat} {h : Hp} {v2 : Int32} {v3 : Int32} {v4 : Int32} {v5 : Int32} {v6 : Int32} {s0 : Nat} (o0 : sh s0 = (1, 9)) (kk : G X d 256 31 [some (.ref 84), none, some (.int v2), some (.int v3), some (.int v4), some (.int (v5 + 1)), none, none] [] (wr h s0 22 v6)) : G X d 256 142 [some (.ref 84), none, some (.int v2), some (.int v3), some (.int v4), some (.int v5), some (.int v6), none] [.ref s0] h := by
  refine g_iload d_256_142 rfl ?_
  refine g_goto (tgt := 151) d_256_144 (by decide) ?_
  refine g_putf (ci := 9) (k := 22) d_256_151 wd_377 (Nat.le_of_ble_eq_true rfl) (Nat.le_of_ble_eq_true rfl) rfl rfl (Or.inl ⟨rfl, rfl⟩) o0 ?_
  refine g_iinc (w := 1) d_256_154 rfl (by decide) (Nat.le_of_ble_eq_true rfl) rfl ?_
  refine g_goto (tgt := 31) d_256_157 (by decide) ?_
  exact g_mask [true, false, true, true, true, true, false, false] kk

theorem k_256_147 {X : GX} {d : Nat} {h : Hp} {v2 : Int32} {v3 : Int32} {v4 : Int32} {v5 : Int32} {s0 : Nat} (o0 : sh s0 = (1, 9)) (kk : G X d 256 31 [some (.ref 84), none, some (.int v2), some (.int v3), some (.int v4), some (.int (v5 + 1)), none, none] [] (wr h s0 22 (h 84 22))) : G X d 256 147 [some (.ref 84), none, some (.int v2), some (.int v3), some (.int v4), some (.int v5), none, none] [.ref s0] h := by
  refine g_aload_n d_256_147 rfl rfl ?_
  refine g_getf (ci := 9) (k := 22) d_256_148 wd_377 (Nat.le_of_ble_eq_true rfl) rfl rfl ?_
  refine g_putf (ci := 9) (k := 22) d_256_151 wd_377 (Nat.le_of_ble_eq_true rfl) (Nat.le_of_ble_eq_true rfl) rfl rfl (Or.inl ⟨rfl, rfl⟩) o0 ?_
  refine g_iinc (w := 1) d_256_154 rfl (by decide) (Nat.le_of_ble_eq_true rfl) rfl ?_
  refine g_goto (tgt := 31) d_256_157 (by decide) ?_
  exact kk

theorem k_256_160 {X : GX} {d : Nat} {h : Hp} {d' : Nat} {Q' : Hp → Prop} (hdd : d' < d) (hC : CV d' 231 [.ref 84] h Q') (kk : ∀ h', Q' h' → G X d 256 164 [none, none, none, none, none, none, none, none] [] h') : G X d 256 160 [some (.ref 84), none, none, none, none, none, none, none] [] h := by
  refine g_aload_n d_256_160 rfl rfl ?_
  exact g_callVV (mj := 231) 9 [] [] d_256_161 wd_479 mo_231 mc_231 mv_231 rfl rfl rfl (Nat.le_of_ble_eq_true rfl) rfl hdd hC (fun h' q => g_mask [false, false, false, false, false, false, false, false] (kk h' q))

theorem k_256_164 {X : GX} {d : Nat} {h : Hp} (hq : RtX X none h) : G X d 256 164 [none, none, none, none, none, none, none, none] [] h := by
  exact g_retv d_256_164 rfl hq

/-! 257 PlayedTruthModel.bars(II)I -/
theorem k_257_0 {X : GX} {d : Nat} {h : Hp} {v1 : Int32} {v2 : Int32} {d' : Nat} {Q' : Int32 → Hp → Prop} (hdd : d' < d) (hC : CI d' 247 [.int v1] h Q') (kk : ∀ x h', Q' x h' → G X d 257 4 [some (.ref 84), some (.int v1), some (.int v2), none] [.int x] h') : G X d 257 0 [some (.ref 84), some (.int v1), some (.int v2), none] [] h := by
  refine g_iload_n d_257_0 rfl rfl ?_
  exact g_callSI (mj := 247) [.int v1] [] d_257_1 wd_497 mo_247 mc_247 mv_247 rfl rfl (Nat.le_of_ble_eq_true rfl)  hdd hC kk

theorem k_257_4 {X : GX} {d : Nat} {h : Hp} {v1 : Int32} {v2 : Int32} {s0 : Int32} (kt : s0 = 0 → G X d 257 15 [none, none, none, none] [] h) (kf : ¬ s0 = 0 → G X d 257 7 [some (.ref 84), some (.int v1), some (.int v2), none] [] h) : G X d 257 4 [some (.ref 84), some (.int v1), some (.int v2), none] [.int s0] h := by
  exact g_if_eq (tgt := 15) d_257_4 (by decide) (fun q => g_mask [false, false, false, false] (kt q)) kf

theorem k_257_7 {X : GX} {d : Nat} {h : Hp} {v1 : Int32} {v2 : Int32} {d' : Nat} {Q' : Int32 → Hp → Prop} (hdd : d' < d) (hC : CI d' 255 [.ref 84, .int v2] h Q') (kk : ∀ x h', Q' x h' → G X d 257 12 [some (.ref 84), some (.int v1), some (.int v2), none] [.int x] h') : G X d 257 7 [some (.ref 84), some (.int v1), some (.int v2), none] [] h := by
  refine g_aload_n d_257_7 rfl rfl ?_
  refine g_iload_n d_257_8 rfl rfl ?_
  exact g_callVI (mj := 255) 9 [.int v2] [] d_257_9 wd_507 mo_255 mc_255 mv_255 rfl rfl rfl (Nat.le_of_ble_eq_true rfl) rfl hdd hC kk

theorem k_257_12 {X : GX} {d : Nat} {h : Hp} {v1 : Int32} {v2 : Int32} {s0 : Int32} (kt : ¬ s0 = 0 → G X d 257 17 [some (.ref 84), some (.int v1), some (.int v2), none] [] h) (kf : s0 = 0 → G X d 257 15 [none, none, none, none] [] h) : G X d 257 12 [some (.ref 84), some (.int v1), some (.int v2), none] [.int s0] h := by
  exact g_if_ne (tgt := 17) d_257_12 (by decide) kt (fun q => g_mask [false, false, false, false] (kf q))

theorem k_257_15 {X : GX} {d : Nat} {h : Hp} (hq : RtX X (some (.int ((-1)))) h) : G X d 257 15 [none, none, none, none] [] h := by
  refine g_iconst (v := (-1)) d_257_15 (by decide) ?_
  exact g_reti d_257_16 rfl hq

theorem k_257_17 {X : GX} {d : Nat} {h : Hp} {v1 : Int32} {v2 : Int32} {d' : Nat} {Q' : Hp → Prop} (hdd : d' < d) (hC : CV d' 256 [.ref 84, .int v1, .int v2] h Q') (kk : ∀ h', Q' h' → G X d 257 23 [some (.ref 84), none, some (.int v2), none] [] h') : G X d 257 17 [some (.ref 84), some (.int v1), some (.int v2), none] [] h := by
  refine g_aload_n d_257_17 rfl rfl ?_
  refine g_iload_n d_257_18 rfl rfl ?_
  refine g_iload_n d_257_19 rfl rfl ?_
  exact g_callVV (mj := 256) 9 [.int v1, .int v2] [] d_257_20 wd_508 mo_256 mc_256 mv_256 rfl rfl rfl (Nat.le_of_ble_eq_true rfl) rfl hdd hC (fun h' q => g_mask [true, false, true, false] (kk h' q))

theorem k_257_23 {X : GX} {d : Nat} {h : Hp} {v2 : Int32} (kk : G X d 257 25 [some (.ref 84), none, some (.int v2), some (.int 0)] [] h) : G X d 257 23 [some (.ref 84), none, some (.int v2), none] [] h := by
  refine g_iconst (v := 0) d_257_23 (by decide) ?_
  refine g_istore_n d_257_24 rfl (Nat.le_of_ble_eq_true rfl) rfl ?_
  exact kk

theorem k_257_25 {X : GX} {d : Nat} {h : Hp} {v2 : Int32} {v3 : Int32} (b0 : IA 85 0) (kt : (h 85 (Int32.toNatClampNeg 0)) ≤ v3 → G X d 257 63 [none, none, none, none] [] h) (kf : ¬ (h 85 (Int32.toNatClampNeg 0)) ≤ v3 → G X d 257 35 [some (.ref 84), none, some (.int v2), some (.int v3)] [] h) : G X d 257 25 [some (.ref 84), none, some (.int v2), some (.int v3)] [] h := by
  refine g_iload_n d_257_25 rfl rfl ?_
  refine g_aload_n d_257_26 rfl rfl ?_
  refine g_getf (ci := 9) (k := 0) d_257_27 wd_355 (Nat.le_of_ble_eq_true rfl) rfl rfl ?_
  refine g_iconst (v := 0) d_257_30 (by decide) ?_
  refine g_iald d_257_31 b0 ?_
  exact g_icmp_ge (tgt := 63) d_257_32 (by decide) (fun q => g_mask [false, false, false, false] (kt q)) kf

theorem k_257_35 {X : GX} {d : Nat} {h : Hp} {v2 : Int32} {v3 : Int32} (kt : ¬ ((v2 >>> (v3 &&& 31)) &&& 1) = 1 → G X d 257 57 [some (.ref 84), none, some (.int v2), some (.int v3)] [] h) (kf : ((v2 >>> (v3 &&& 31)) &&& 1) = 1 → G X d 257 44 [some (.ref 84), none, some (.int v2), some (.int v3)] [] h) : G X d 257 35 [some (.ref 84), none, some (.int v2), some (.int v3)] [] h := by
  refine g_iload_n d_257_35 rfl rfl ?_
  refine g_iload_n d_257_36 rfl rfl ?_
  refine g_ishr d_257_37 ?_
  refine g_iconst (v := 1) d_257_38 (by decide) ?_
  refine g_iand d_257_39 ?_
  refine g_iconst (v := 1) d_257_40 (by decide) ?_
  exact g_icmp_ne (tgt := 57) d_257_41 (by decide) kt kf

theorem k_257_44 {X : GX} {d : Nat} {h : Hp} {v2 : Int32} {v3 : Int32} (kt : ¬ (((h 84 23) >>> (v3 &&& 31)) &&& 1) = 0 → G X d 257 57 [some (.ref 84), none, some (.int v2), some (.int v3)] [] h) (kf : (((h 84 23) >>> (v3 &&& 31)) &&& 1) = 0 → G X d 257 55 [none, none, none, some (.int v3)] [] h) : G X d 257 44 [some (.ref 84), none, some (.int v2), some (.int v3)] [] h := by
  refine g_aload_n d_257_44 rfl rfl ?_
  refine g_getf (ci := 9) (k := 23) d_257_45 wd_378 (Nat.le_of_ble_eq_true rfl) rfl rfl ?_
  refine g_iload_n d_257_48 rfl rfl ?_
  refine g_ishr d_257_49 ?_
  refine g_iconst (v := 1) d_257_50 (by decide) ?_
  refine g_iand d_257_51 ?_
  exact g_if_ne (tgt := 57) d_257_52 (by decide) kt (fun q => g_mask [false, false, false, true] (kf q))

theorem k_257_55 {X : GX} {d : Nat} {h : Hp} {v3 : Int32} (hq : RtX X (some (.int v3)) h) : G X d 257 55 [none, none, none, some (.int v3)] [] h := by
  refine g_iload_n d_257_55 rfl rfl ?_
  exact g_reti d_257_56 rfl hq

theorem k_257_57 {X : GX} {d : Nat} {h : Hp} {v2 : Int32} {v3 : Int32} (kk : G X d 257 25 [some (.ref 84), none, some (.int v2), some (.int (v3 + 1))] [] h) : G X d 257 57 [some (.ref 84), none, some (.int v2), some (.int v3)] [] h := by
  refine g_iinc (w := 1) d_257_57 rfl (by decide) (Nat.le_of_ble_eq_true rfl) rfl ?_
  refine g_goto (tgt := 25) d_257_60 (by decide) ?_
  exact kk

theorem k_257_63 {X : GX} {d : Nat} {h : Hp} (hq : RtX X (some (.int ((-3)))) h) : G X d 257 63 [none, none, none, none] [] h := by
  refine g_bipush (v := (-3)) d_257_63 (by decide) ?_
  exact g_reti d_257_65 rfl hq

/-! 258 PlayedTruthModel.game(I)I -/
theorem k_258_0 {X : GX} {d : Nat} {h : Hp} {v1 : Int32} {d' : Nat} {Q' : Int32 → Hp → Prop} (hdd : d' < d) (hC : CI d' 177 [.long (Int32.toInt64 v1), .long 1, .long 4] h Q') (kk : ∀ x h', Q' x h' → G X d 258 9 [some (.ref 84), some (.int v1)] [.int x] h') : G X d 258 0 [some (.ref 84), some (.int v1)] [] h := by
  refine g_iload_n d_258_0 rfl rfl ?_
  refine g_i2l d_258_1 ?_
  refine g_lconst (v := 1) d_258_2 (by decide) ?_
  refine g_ldc2_w (v := 4) d_258_3 wd_498 ?_
  exact g_callSI (mj := 177) [.long (Int32.toInt64 v1), .long 1, .long 4] [] d_258_6 wd_395 mo_177 mc_177 mv_177 rfl rfl (Nat.le_of_ble_eq_true rfl)  hdd hC kk

theorem k_258_9 {X : GX} {d : Nat} {h : Hp} {v1 : Int32} {s0 : Int32} (kt : s0 = 0 → G X d 258 21 [none, none] [] h) (kf : ¬ s0 = 0 → G X d 258 12 [some (.ref 84), some (.int v1)] [] h) : G X d 258 9 [some (.ref 84), some (.int v1)] [.int s0] h := by
  exact g_if_eq (tgt := 21) d_258_9 (by decide) (fun q => g_mask [false, false] (kt q)) kf

theorem k_258_12 {X : GX} {d : Nat} {h : Hp} {v1 : Int32} {d' : Nat} {Q' : Int32 → Hp → Prop} (hdd : d' < d) (hC : CI d' 259 [.ref 84, .int v1, .int 1] h Q') (kk : ∀ x h', Q' x h' → G X d 258 18 [none, none] [.int x] h') : G X d 258 12 [some (.ref 84), some (.int v1)] [] h := by
  refine g_aload_n d_258_12 rfl rfl ?_
  refine g_iload_n d_258_13 rfl rfl ?_
  refine g_iconst (v := 1) d_258_14 (by decide) ?_
  exact g_callVI (mj := 259) 9 [.int v1, .int 1] [] d_258_15 wd_511 mo_259 mc_259 mv_259 rfl rfl rfl (Nat.le_of_ble_eq_true rfl) rfl hdd hC (fun x h' q => g_mask [false, false] (kk x h' q))

theorem k_258_18 {X : GX} {d : Nat} {h : Hp} {s0 : Int32} (hq : RtX X (some (.int s0)) h) : G X d 258 18 [none, none] [.int s0] h := by
  refine g_goto (tgt := 22) d_258_18 (by decide) ?_
  exact g_reti d_258_22 rfl hq

theorem k_258_21 {X : GX} {d : Nat} {h : Hp} (hq : RtX X (some (.int ((-1)))) h) : G X d 258 21 [none, none] [] h := by
  refine g_iconst (v := (-1)) d_258_21 (by decide) ?_
  exact g_reti d_258_22 rfl hq

/-! 259 PlayedTruthModel.valueOf(IZ)I -/
theorem k_259_0 {X : GX} {d : Nat} {h : Hp} {v1 : Int32} {v2 : Int32} (kt : v1 = 0 → G X d 259 11 [none, none, none, none, none, none] [] h) (kf : ¬ v1 = 0 → G X d 259 4 [some (.ref 84), some (.int v1), some (.int v2), none, none, none] [] h) : G X d 259 0 [some (.ref 84), some (.int v1), some (.int v2), none, none, none] [] h := by
  refine g_iload_n d_259_0 rfl rfl ?_
  exact g_if_eq (tgt := 11) d_259_1 (by decide) (fun q => g_mask [false, false, false, false, false, false] (kt q)) kf

theorem k_259_4 {X : GX} {d : Nat} {h : Hp} {v1 : Int32} {v2 : Int32} {d' : Nat} {Q' : Int32 → Hp → Prop} (hdd : d' < d) (hC : CI d' 205 [.ref 84] h Q') (kk : ∀ x h', Q' x h' → G X d 259 8 [some (.ref 84), some (.int v1), some (.int v2), none, none, none] [.int x] h') : G X d 259 4 [some (.ref 84), some (.int v1), some (.int v2), none, none, none] [] h := by
  refine g_aload_n d_259_4 rfl rfl ?_
  exact g_callVI (mj := 205) 9 [] [] d_259_5 wd_427 mo_205 mc_205 mv_205 rfl rfl rfl (Nat.le_of_ble_eq_true rfl) rfl hdd hC kk

theorem k_259_8 {X : GX} {d : Nat} {h : Hp} {v1 : Int32} {v2 : Int32} {s0 : Int32} (kt : s0 = 0 → G X d 259 13 [some (.ref 84), some (.int v1), some (.int v2), none, none, none] [] h) (kf : ¬ s0 = 0 → G X d 259 11 [none, none, none, none, none, none] [] h) : G X d 259 8 [some (.ref 84), some (.int v1), some (.int v2), none, none, none] [.int s0] h := by
  exact g_if_eq (tgt := 13) d_259_8 (by decide) kt (fun q => g_mask [false, false, false, false, false, false] (kf q))

theorem k_259_11 {X : GX} {d : Nat} {h : Hp} (hq : RtX X (some (.int 0)) h) : G X d 259 11 [none, none, none, none, none, none] [] h := by
  refine g_iconst (v := 0) d_259_11 (by decide) ?_
  exact g_reti d_259_12 rfl hq

theorem k_259_13 {X : GX} {d : Nat} {h : Hp} {v1 : Int32} {v2 : Int32} (kt : v2 = 0 → G X d 259 21 [some (.ref 84), some (.int v1), some (.int v2), none, none, none] [] h) (kf : ¬ v2 = 0 → G X d 259 17 [some (.ref 84), some (.int v1), some (.int v2), none, none, none] [] h) : G X d 259 13 [some (.ref 84), some (.int v1), some (.int v2), none, none, none] [] h := by
  refine g_iload_n d_259_13 rfl rfl ?_
  exact g_if_eq (tgt := 21) d_259_14 (by decide) kt kf

theorem k_259_17 {X : GX} {d : Nat} {h : Hp} {v1 : Int32} {v2 : Int32} {d' : Nat} {Q' : Hp → Prop} (hdd : d' < d) (hC : CV d' 229 [.ref 84] h Q') (kk : ∀ h', Q' h' → G X d 259 29 [some (.ref 84), some (.int v1), some (.int v2), some (.int ((-1))), none, none] [] h') : G X d 259 17 [some (.ref 84), some (.int v1), some (.int v2), none, none, none] [] h := by
  refine g_iconst (v := (-1)) d_259_17 (by decide) ?_
  refine g_goto (tgt := 24) d_259_18 (by decide) ?_
  refine g_istore_n d_259_24 rfl (Nat.le_of_ble_eq_true rfl) rfl ?_
  refine g_aload_n d_259_25 rfl rfl ?_
  exact g_callVV (mj := 229) 9 [] [] d_259_26 wd_477 mo_229 mc_229 mv_229 rfl rfl rfl (Nat.le_of_ble_eq_true rfl) rfl hdd hC kk

theorem k_259_21 {X : GX} {d : Nat} {h : Hp} {v1 : Int32} {v2 : Int32} {d' : Nat} {Q' : Hp → Prop} (hdd : d' < d) (hC : CV d' 229 [.ref 84] h Q') (kk : ∀ h', Q' h' → G X d 259 29 [some (.ref 84), some (.int v1), some (.int v2), some (.int 1000000), none, none] [] h') : G X d 259 21 [some (.ref 84), some (.int v1), some (.int v2), none, none, none] [] h := by
  refine g_ldc_w (v := 1000000) d_259_21 wd_512 ?_
  refine g_istore_n d_259_24 rfl (Nat.le_of_ble_eq_true rfl) rfl ?_
  refine g_aload_n d_259_25 rfl rfl ?_
  exact g_callVV (mj := 229) 9 [] [] d_259_26 wd_477 mo_229 mc_229 mv_229 rfl rfl rfl (Nat.le_of_ble_eq_true rfl) rfl hdd hC kk

theorem k_259_29 {X : GX} {d : Nat} {h : Hp} {v1 : Int32} {v2 : Int32} {v3 : Int32} (kk : G X d 259 32 [some (.ref 84), some (.int v1), some (.int v2), some (.int v3), some (.int 0), none] [] h) : G X d 259 29 [some (.ref 84), some (.int v1), some (.int v2), some (.int v3), none, none] [] h := by
  refine g_iconst (v := 0) d_259_29 (by decide) ?_
  refine g_istore d_259_30 (Nat.le_of_ble_eq_true rfl) rfl ?_
  exact kk

theorem k_259_32 {X : GX} {d : Nat} {h : Hp} {v1 : Int32} {v2 : Int32} {v3 : Int32} {v4 : Int32} (b0 : IA 85 0) (kt : (h 85 (Int32.toNatClampNeg 0)) < v4 → G X d 259 100 [some (.ref 84), none, none, some (.int v3), none, none] [] h) (kf : ¬ (h 85 (Int32.toNatClampNeg 0)) < v4 → G X d 259 43 [some (.ref 84), some (.int v1), some (.int v2), some (.int v3), some (.int v4), none] [] h) : G X d 259 32 [some (.ref 84), some (.int v1), some (.int v2), some (.int v3), some (.int v4), none] [] h := by
  refine g_iload d_259_32 rfl ?_
  refine g_aload_n d_259_34 rfl rfl ?_
  refine g_getf (ci := 9) (k := 0) d_259_35 wd_355 (Nat.le_of_ble_eq_true rfl) rfl rfl ?_
  refine g_iconst (v := 0) d_259_38 (by decide) ?_
  refine g_iald d_259_39 b0 ?_
  exact g_icmp_gt (tgt := 100) d_259_40 (by decide) (fun q => g_mask [true, false, false, true, false, false] (kt q)) kf

theorem k_259_43 {X : GX} {d : Nat} {h : Hp} {v1 : Int32} {v2 : Int32} {v3 : Int32} {v4 : Int32} {d' : Nat} {Q' : Int32 → Hp → Prop} (hdd : d' < d) (hC : CI d' 226 [.ref 84, .int v4] h Q') (kk : ∀ x h', Q' x h' → G X d 259 49 [some (.ref 84), some (.int v1), some (.int v2), some (.int v3), some (.int v4), none] [.int x] h') : G X d 259 43 [some (.ref 84), some (.int v1), some (.int v2), some (.int v3), some (.int v4), none] [] h := by
  refine g_aload_n d_259_43 rfl rfl ?_
  refine g_iload d_259_44 rfl ?_
  exact g_callVI (mj := 226) 9 [.int v4] [] d_259_46 wd_474 mo_226 mc_226 mv_226 rfl rfl rfl (Nat.le_of_ble_eq_true rfl) rfl hdd hC kk

theorem k_259_49 {X : GX} {d : Nat} {h : Hp} {v1 : Int32} {v2 : Int32} {v3 : Int32} {v4 : Int32} {s0 : Int32} (kt : ¬ v2 = 0 → G X d 259 61 [some (.ref 84), some (.int v1), some (.int v2), some (.int v3), some (.int v4), none] [.int (v1 - 1), .ref 84, .int s0] h) (kf : v2 = 0 → G X d 259 57 [some (.ref 84), some (.int v1), some (.int v2), some (.int v3), some (.int v4), none] [.int (v1 - 1), .ref 84, .int s0] h) : G X d 259 49 [some (.ref 84), some (.int v1), some (.int v2), some (.int v3), some (.int v4), none] [.int s0] h := by
  refine g_aload_n d_259_49 rfl rfl ?_
  refine g_iload_n d_259_50 rfl rfl ?_
  refine g_iconst (v := 1) d_259_51 (by decide) ?_
  refine g_isub d_259_52 ?_
  refine g_iload_n d_259_53 rfl rfl ?_
  exact g_if_ne (tgt := 61) d_259_54 (by decide) kt kf

theorem k_259_57 {X : GX} {d : Nat} {h : Hp} {v1 : Int32} {v2 : Int32} {v3 : Int32} {v4 : Int32} {s0 : Int32} {s1 : Nat} {s2 : Int32} {d' : Nat} {Q' : Int32 → Hp → Prop} (o0 : sh s1 = (1, 9)) (hdd : d' < d) (hC : CI d' 259 [.ref s1, .int s0, .int 1] h Q') (kk : ∀ x h', Q' x h' → G X d 259 65 [some (.ref 84), some (.int v1), some (.int v2), some (.int v3), some (.int v4), none] [.int x, .int s2] h') : G X d 259 57 [some (.ref 84), some (.int v1), some (.int v2), some (.int v3), some (.int v4), none] [.int s0, .ref s1, .int s2] h := by
  refine g_iconst (v := 1) d_259_57 (by decide) ?_
  refine g_goto (tgt := 62) d_259_58 (by decide) ?_
  exact g_callVI (mj := 259) 9 [.int s0, .int 1] [.int s2] d_259_62 wd_511 mo_259 mc_259 mv_259 rfl rfl rfl (Nat.le_of_ble_eq_true rfl) o0 hdd hC kk

theorem k_259_61 {X : GX} {d : Nat} {h : Hp} {v1 : Int32} {v2 : Int32} {v3 : Int32} {v4 : Int32} {s0 : Int32} {s1 : Nat} {s2 : Int32} {d' : Nat} {Q' : Int32 → Hp → Prop} (o0 : sh s1 = (1, 9)) (hdd : d' < d) (hC : CI d' 259 [.ref s1, .int s0, .int 0] h Q') (kk : ∀ x h', Q' x h' → G X d 259 65 [some (.ref 84), some (.int v1), some (.int v2), some (.int v3), some (.int v4), none] [.int x, .int s2] h') : G X d 259 61 [some (.ref 84), some (.int v1), some (.int v2), some (.int v3), some (.int v4), none] [.int s0, .ref s1, .int s2] h := by
  refine g_iconst (v := 0) d_259_61 (by decide) ?_
  exact g_callVI (mj := 259) 9 [.int s0, .int 0] [.int s2] d_259_62 wd_511 mo_259 mc_259 mv_259 rfl rfl rfl (Nat.le_of_ble_eq_true rfl) o0 hdd hC kk

theorem k_259_65 {X : GX} {d : Nat} {h : Hp} {v1 : Int32} {v2 : Int32} {v3 : Int32} {v4 : Int32} {s0 : Int32} {s1 : Int32} {d' : Nat} {Q' : Hp → Prop} (hdd : d' < d) (hC : CV d' 232 [.ref 84] h Q') (kk : ∀ h', Q' h' → G X d 259 72 [some (.ref 84), some (.int v1), some (.int v2), some (.int v3), some (.int v4), some (.int (s1 + s0))] [] h') : G X d 259 65 [some (.ref 84), some (.int v1), some (.int v2), some (.int v3), some (.int v4), none] [.int s0, .int s1] h := by
  refine g_iadd d_259_65 ?_
  refine g_istore d_259_66 (Nat.le_of_ble_eq_true rfl) rfl ?_
  refine g_aload_n d_259_68 rfl rfl ?_
  exact g_callVV (mj := 232) 9 [] [] d_259_69 wd_480 mo_232 mc_232 mv_232 rfl rfl rfl (Nat.le_of_ble_eq_true rfl) rfl hdd hC kk

theorem k_259_72 {X : GX} {d : Nat} {h : Hp} {v1 : Int32} {v2 : Int32} {v3 : Int32} {v4 : Int32} {v5 : Int32} (kt : v5 ≤ v3 → G X d 259 83 [some (.ref 84), some (.int v1), some (.int v2), some (.int v3), some (.int v4), some (.int v5)] [.int v2] h) (kf : ¬ v5 ≤ v3 → G X d 259 79 [some (.ref 84), some (.int v1), some (.int v2), some (.int v3), some (.int v4), some (.int v5)] [.int v2] h) : G X d 259 72 [some (.ref 84), some (.int v1), some (.int v2), some (.int v3), some (.int v4), some (.int v5)] [] h := by
  refine g_iload_n d_259_72 rfl rfl ?_
  refine g_iload d_259_73 rfl ?_
  refine g_iload_n d_259_75 rfl rfl ?_
  exact g_icmp_le (tgt := 83) d_259_76 (by decide) kt kf

theorem k_259_79 {X : GX} {d : Nat} {h : Hp} {v1 : Int32} {v2 : Int32} {v3 : Int32} {v4 : Int32} {v5 : Int32} {s0 : Int32} (kt : ¬ s0 = 1 → G X d 259 92 [some (.ref 84), some (.int v1), some (.int v2), some (.int v3), some (.int v4), none] [] h) (kf : s0 = 1 → G X d 259 87 [some (.ref 84), some (.int v1), some (.int v2), none, some (.int v4), some (.int v5)] [] h) : G X d 259 79 [some (.ref 84), some (.int v1), some (.int v2), some (.int v3), some (.int v4), some (.int v5)] [.int s0] h := by
  refine g_iconst (v := 1) d_259_79 (by decide) ?_
  refine g_goto (tgt := 84) d_259_80 (by decide) ?_
  exact g_icmp_ne (tgt := 92) d_259_84 (by decide) (fun q => g_mask [true, true, true, true, true, false] (kt q)) (fun q => g_mask [true, true, true, false, true, true] (kf q))

theorem k_259_83 {X : GX} {d : Nat} {h : Hp} {v1 : Int32} {v2 : Int32} {v3 : Int32} {v4 : Int32} {v5 : Int32} {s0 : Int32} (kt : ¬ s0 = 0 → G X d 259 92 [some (.ref 84), some (.int v1), some (.int v2), some (.int v3), some (.int v4), none] [] h) (kf : s0 = 0 → G X d 259 87 [some (.ref 84), some (.int v1), some (.int v2), none, some (.int v4), some (.int v5)] [] h) : G X d 259 83 [some (.ref 84), some (.int v1), some (.int v2), some (.int v3), some (.int v4), some (.int v5)] [.int s0] h := by
  refine g_iconst (v := 0) d_259_83 (by decide) ?_
  exact g_icmp_ne (tgt := 92) d_259_84 (by decide) (fun q => g_mask [true, true, true, true, true, false] (kt q)) (fun q => g_mask [true, true, true, false, true, true] (kf q))

theorem k_259_87 {X : GX} {d : Nat} {h : Hp} {v1 : Int32} {v2 : Int32} {v4 : Int32} {v5 : Int32} (kk : G X d 259 32 [some (.ref 84), some (.int v1), some (.int v2), some (.int v5), some (.int (v4 + 1)), none] [] h) : G X d 259 87 [some (.ref 84), some (.int v1), some (.int v2), none, some (.int v4), some (.int v5)] [] h := by
  refine g_iload d_259_87 rfl ?_
  refine g_goto (tgt := 93) d_259_89 (by decide) ?_
  refine g_istore_n d_259_93 rfl (Nat.le_of_ble_eq_true rfl) rfl ?_
  refine g_iinc (w := 1) d_259_94 rfl (by decide) (Nat.le_of_ble_eq_true rfl) rfl ?_
  refine g_goto (tgt := 32) d_259_97 (by decide) ?_
  exact g_mask [true, true, true, true, true, false] kk

theorem k_259_92 {X : GX} {d : Nat} {h : Hp} {v1 : Int32} {v2 : Int32} {v3 : Int32} {v4 : Int32} (kk : G X d 259 32 [some (.ref 84), some (.int v1), some (.int v2), some (.int v3), some (.int (v4 + 1)), none] [] h) : G X d 259 92 [some (.ref 84), some (.int v1), some (.int v2), some (.int v3), some (.int v4), none] [] h := by
  refine g_iload_n d_259_92 rfl rfl ?_
  refine g_istore_n d_259_93 rfl (Nat.le_of_ble_eq_true rfl) rfl ?_
  refine g_iinc (w := 1) d_259_94 rfl (by decide) (Nat.le_of_ble_eq_true rfl) rfl ?_
  refine g_goto (tgt := 32) d_259_97 (by decide) ?_
  exact kk

theorem k_259_100 {X : GX} {d : Nat} {h : Hp} {v3 : Int32} {d' : Nat} {Q' : Hp → Prop} (hdd : d' < d) (hC : CV d' 231 [.ref 84] h Q') (kk : ∀ h', Q' h' → G X d 259 104 [none, none, none, some (.int v3), none, none] [] h') : G X d 259 100 [some (.ref 84), none, none, some (.int v3), none, none] [] h := by
  refine g_aload_n d_259_100 rfl rfl ?_
  exact g_callVV (mj := 231) 9 [] [] d_259_101 wd_479 mo_231 mc_231 mv_231 rfl rfl rfl (Nat.le_of_ble_eq_true rfl) rfl hdd hC (fun h' q => g_mask [false, false, false, true, false, false] (kk h' q))

theorem k_259_104 {X : GX} {d : Nat} {h : Hp} {v3 : Int32} (hq : RtX X (some (.int v3)) h) : G X d 259 104 [none, none, none, some (.int v3), none, none] [] h := by
  refine g_iload_n d_259_104 rfl rfl ?_
  exact g_reti d_259_105 rfl hq

/-! 260 PlayedTruthModel.play(I)I -/
theorem k_260_0 {X : GX} {d : Nat} {h : Hp} {v1 : Int32} {d' : Nat} {Q' : Int32 → Hp → Prop} (hdd : d' < d) (hC : CI d' 177 [.long (Int32.toInt64 v1), .long 1, .long 4] h Q') (kk : ∀ x h', Q' x h' → G X d 260 9 [some (.ref 84), some (.int v1), none, none, none, none] [.int x] h') : G X d 260 0 [some (.ref 84), some (.int v1), none, none, none, none] [] h := by
  refine g_iload_n d_260_0 rfl rfl ?_
  refine g_i2l d_260_1 ?_
  refine g_lconst (v := 1) d_260_2 (by decide) ?_
  refine g_ldc2_w (v := 4) d_260_3 wd_498 ?_
  exact g_callSI (mj := 177) [.long (Int32.toInt64 v1), .long 1, .long 4] [] d_260_6 wd_395 mo_177 mc_177 mv_177 rfl rfl (Nat.le_of_ble_eq_true rfl)  hdd hC kk

theorem k_260_9 {X : GX} {d : Nat} {h : Hp} {v1 : Int32} {s0 : Int32} (kt : ¬ s0 = 0 → G X d 260 14 [some (.ref 84), some (.int v1), none, none, none, none] [] h) (kf : s0 = 0 → G X d 260 12 [none, none, none, none, none, none] [] h) : G X d 260 9 [some (.ref 84), some (.int v1), none, none, none, none] [.int s0] h := by
  exact g_if_ne (tgt := 14) d_260_9 (by decide) kt (fun q => g_mask [false, false, false, false, false, false] (kf q))

theorem k_260_12 {X : GX} {d : Nat} {h : Hp} (hq : RtX X (some (.int ((-1)))) h) : G X d 260 12 [none, none, none, none, none, none] [] h := by
  refine g_iconst (v := (-1)) d_260_12 (by decide) ?_
  exact g_reti d_260_13 rfl hq

theorem k_260_14 {X : GX} {d : Nat} {h : Hp} {v1 : Int32} {d' : Nat} {Q' : Int32 → Hp → Prop} (hdd : d' < d) (hC : CI d' 205 [.ref 84] h Q') (kk : ∀ x h', Q' x h' → G X d 260 18 [some (.ref 84), some (.int v1), none, none, none, none] [.int x] h') : G X d 260 14 [some (.ref 84), some (.int v1), none, none, none, none] [] h := by
  refine g_aload_n d_260_14 rfl rfl ?_
  exact g_callVI (mj := 205) 9 [] [] d_260_15 wd_427 mo_205 mc_205 mv_205 rfl rfl rfl (Nat.le_of_ble_eq_true rfl) rfl hdd hC kk

theorem k_260_18 {X : GX} {d : Nat} {h : Hp} {v1 : Int32} {s0 : Int32} (kt : s0 = 0 → G X d 260 24 [some (.ref 84), some (.int v1), none, none, none, none] [] h) (kf : ¬ s0 = 0 → G X d 260 21 [none, none, none, none, none, none] [] h) : G X d 260 18 [some (.ref 84), some (.int v1), none, none, none, none] [.int s0] h := by
  exact g_if_eq (tgt := 24) d_260_18 (by decide) kt (fun q => g_mask [false, false, false, false, false, false] (kf q))

theorem k_260_21 {X : GX} {d : Nat} {h : Hp} (hq : RtX X (some (.int ((-3)))) h) : G X d 260 21 [none, none, none, none, none, none] [] h := by
  refine g_bipush (v := (-3)) d_260_21 (by decide) ?_
  exact g_reti d_260_23 rfl hq

theorem k_260_24 {X : GX} {d : Nat} {h : Hp} {v1 : Int32} {d' : Nat} {Q' : Int32 → Hp → Prop} (hdd : d' < d) (hC : CI d' 259 [.ref 84, .int v1, .int 1] h Q') (kk : ∀ x h', Q' x h' → G X d 260 30 [some (.ref 84), some (.int v1), none, none, none, none] [.int x] h') : G X d 260 24 [some (.ref 84), some (.int v1), none, none, none, none] [] h := by
  refine g_aload_n d_260_24 rfl rfl ?_
  refine g_iload_n d_260_25 rfl rfl ?_
  refine g_iconst (v := 1) d_260_26 (by decide) ?_
  exact g_callVI (mj := 259) 9 [.int v1, .int 1] [] d_260_27 wd_511 mo_259 mc_259 mv_259 rfl rfl rfl (Nat.le_of_ble_eq_true rfl) rfl hdd hC kk

theorem k_260_30 {X : GX} {d : Nat} {h : Hp} {v1 : Int32} {s0 : Int32} {d' : Nat} {Q' : Hp → Prop} (hdd : d' < d) (hC : CV d' 229 [.ref 84] h Q') (kk : ∀ h', Q' h' → G X d 260 38 [some (.ref 84), some (.int v1), some (.int s0), some (.int ((-3))), none, none] [] h') : G X d 260 30 [some (.ref 84), some (.int v1), none, none, none, none] [.int s0] h := by
  refine g_istore_n d_260_30 rfl (Nat.le_of_ble_eq_true rfl) rfl ?_
  refine g_bipush (v := (-3)) d_260_31 (by decide) ?_
  refine g_istore_n d_260_33 rfl (Nat.le_of_ble_eq_true rfl) rfl ?_
  refine g_aload_n d_260_34 rfl rfl ?_
  exact g_callVV (mj := 229) 9 [] [] d_260_35 wd_477 mo_229 mc_229 mv_229 rfl rfl rfl (Nat.le_of_ble_eq_true rfl) rfl hdd hC kk

theorem k_260_38 {X : GX} {d : Nat} {h : Hp} {v1 : Int32} {v2 : Int32} {v3 : Int32} (b0 : IA 85 0) (kk : G X d 260 46 [some (.ref 84), some (.int v1), some (.int v2), some (.int v3), some (.int (h 85 (Int32.toNatClampNeg 0))), none] [] h) : G X d 260 38 [some (.ref 84), some (.int v1), some (.int v2), some (.int v3), none, none] [] h := by
  refine g_aload_n d_260_38 rfl rfl ?_
  refine g_getf (ci := 9) (k := 0) d_260_39 wd_355 (Nat.le_of_ble_eq_true rfl) rfl rfl ?_
  refine g_iconst (v := 0) d_260_42 (by decide) ?_
  refine g_iald d_260_43 b0 ?_
  refine g_istore d_260_44 (Nat.le_of_ble_eq_true rfl) rfl ?_
  exact kk

theorem k_260_46 {X : GX} {d : Nat} {h : Hp} {v1 : Int32} {v2 : Int32} {v3 : Int32} {v4 : Int32} (kt : v4 < 0 → G X d 260 91 [some (.ref 84), none, none, some (.int v3), none, none] [] h) (kf : ¬ v4 < 0 → G X d 260 51 [some (.ref 84), some (.int v1), some (.int v2), some (.int v3), some (.int v4), none] [] h) : G X d 260 46 [some (.ref 84), some (.int v1), some (.int v2), some (.int v3), some (.int v4), none] [] h := by
  refine g_iload d_260_46 rfl ?_
  exact g_if_lt (tgt := 91) d_260_48 (by decide) (fun q => g_mask [true, false, false, true, false, false] (kt q)) kf

theorem k_260_51 {X : GX} {d : Nat} {h : Hp} {v1 : Int32} {v2 : Int32} {v3 : Int32} {v4 : Int32} {d' : Nat} {Q' : Int32 → Hp → Prop} (hdd : d' < d) (hC : CI d' 226 [.ref 84, .int v4] h Q') (kk : ∀ x h', Q' x h' → G X d 260 57 [some (.ref 84), some (.int v1), some (.int v2), some (.int v3), some (.int v4), none] [.int x] h') : G X d 260 51 [some (.ref 84), some (.int v1), some (.int v2), some (.int v3), some (.int v4), none] [] h := by
  refine g_aload_n d_260_51 rfl rfl ?_
  refine g_iload d_260_52 rfl ?_
  exact g_callVI (mj := 226) 9 [.int v4] [] d_260_54 wd_474 mo_226 mc_226 mv_226 rfl rfl rfl (Nat.le_of_ble_eq_true rfl) rfl hdd hC kk

theorem k_260_57 {X : GX} {d : Nat} {h : Hp} {v1 : Int32} {v2 : Int32} {v3 : Int32} {v4 : Int32} {s0 : Int32} {d' : Nat} {Q' : Int32 → Hp → Prop} (hdd : d' < d) (hC : CI d' 259 [.ref 84, .int (v1 - 1), .int 0] h Q') (kk : ∀ x h', Q' x h' → G X d 260 65 [some (.ref 84), some (.int v1), some (.int v2), some (.int v3), some (.int v4), none] [.int x, .int s0] h') : G X d 260 57 [some (.ref 84), some (.int v1), some (.int v2), some (.int v3), some (.int v4), none] [.int s0] h := by
  refine g_aload_n d_260_57 rfl rfl ?_
  refine g_iload_n d_260_58 rfl rfl ?_
  refine g_iconst (v := 1) d_260_59 (by decide) ?_
  refine g_isub d_260_60 ?_
  refine g_iconst (v := 0) d_260_61 (by decide) ?_
  exact g_callVI (mj := 259) 9 [.int (v1 - 1), .int 0] [.int s0] d_260_62 wd_511 mo_259 mc_259 mv_259 rfl rfl rfl (Nat.le_of_ble_eq_true rfl) rfl hdd hC kk

theorem k_260_65 {X : GX} {d : Nat} {h : Hp} {v1 : Int32} {v2 : Int32} {v3 : Int32} {v4 : Int32} {s0 : Int32} {s1 : Int32} {d' : Nat} {Q' : Hp → Prop} (hdd : d' < d) (hC : CV d' 232 [.ref 84] h Q') (kk : ∀ h', Q' h' → G X d 260 72 [some (.ref 84), some (.int v1), some (.int v2), some (.int v3), some (.int v4), some (.int (s1 + s0))] [] h') : G X d 260 65 [some (.ref 84), some (.int v1), some (.int v2), some (.int v3), some (.int v4), none] [.int s0, .int s1] h := by
  refine g_iadd d_260_65 ?_
  refine g_istore d_260_66 (Nat.le_of_ble_eq_true rfl) rfl ?_
  refine g_aload_n d_260_68 rfl rfl ?_
  exact g_callVV (mj := 232) 9 [] [] d_260_69 wd_480 mo_232 mc_232 mv_232 rfl rfl rfl (Nat.le_of_ble_eq_true rfl) rfl hdd hC kk

theorem k_260_72 {X : GX} {d : Nat} {h : Hp} {v1 : Int32} {v2 : Int32} {v3 : Int32} {v4 : Int32} {v5 : Int32} (kt : ¬ v5 = v2 → G X d 260 83 [some (.ref 84), some (.int v1), some (.int v2), some (.int v3), some (.int v4), none] [] h) (kf : v5 = v2 → G X d 260 78 [some (.ref 84), some (.int v1), some (.int v2), none, some (.int v4), none] [] h) : G X d 260 72 [some (.ref 84), some (.int v1), some (.int v2), some (.int v3), some (.int v4), some (.int v5)] [] h := by
  refine g_iload d_260_72 rfl ?_
  refine g_iload_n d_260_74 rfl rfl ?_
  exact g_icmp_ne (tgt := 83) d_260_75 (by decide) (fun q => g_mask [true, true, true, true, true, false] (kt q)) (fun q => g_mask [true, true, true, false, true, false] (kf q))

theorem k_260_78 {X : GX} {d : Nat} {h : Hp} {v1 : Int32} {v2 : Int32} {v4 : Int32} (kk : G X d 260 46 [some (.ref 84), some (.int v1), some (.int v2), some (.int v4), some (.int (v4 + (-1))), none] [] h) : G X d 260 78 [some (.ref 84), some (.int v1), some (.int v2), none, some (.int v4), none] [] h := by
  refine g_iload d_260_78 rfl ?_
  refine g_goto (tgt := 84) d_260_80 (by decide) ?_
  refine g_istore_n d_260_84 rfl (Nat.le_of_ble_eq_true rfl) rfl ?_
  refine g_iinc (w := (-1)) d_260_85 rfl (by decide) (Nat.le_of_ble_eq_true rfl) rfl ?_
  refine g_goto (tgt := 46) d_260_88 (by decide) ?_
  exact kk

theorem k_260_83 {X : GX} {d : Nat} {h : Hp} {v1 : Int32} {v2 : Int32} {v3 : Int32} {v4 : Int32} (kk : G X d 260 46 [some (.ref 84), some (.int v1), some (.int v2), some (.int v3), some (.int (v4 + (-1))), none] [] h) : G X d 260 83 [some (.ref 84), some (.int v1), some (.int v2), some (.int v3), some (.int v4), none] [] h := by
  refine g_iload_n d_260_83 rfl rfl ?_
  refine g_istore_n d_260_84 rfl (Nat.le_of_ble_eq_true rfl) rfl ?_
  refine g_iinc (w := (-1)) d_260_85 rfl (by decide) (Nat.le_of_ble_eq_true rfl) rfl ?_
  refine g_goto (tgt := 46) d_260_88 (by decide) ?_
  exact kk

theorem k_260_91 {X : GX} {d : Nat} {h : Hp} {v3 : Int32} {d' : Nat} {Q' : Hp → Prop} (hdd : d' < d) (hC : CV d' 231 [.ref 84] h Q') (kk : ∀ h', Q' h' → G X d 260 95 [none, none, none, some (.int v3), none, none] [] h') : G X d 260 91 [some (.ref 84), none, none, some (.int v3), none, none] [] h := by
  refine g_aload_n d_260_91 rfl rfl ?_
  exact g_callVV (mj := 231) 9 [] [] d_260_92 wd_479 mo_231 mc_231 mv_231 rfl rfl rfl (Nat.le_of_ble_eq_true rfl) rfl hdd hC (fun h' q => g_mask [false, false, false, true, false, false] (kk h' q))

theorem k_260_95 {X : GX} {d : Nat} {h : Hp} {v3 : Int32} (hq : RtX X (some (.int v3)) h) : G X d 260 95 [none, none, none, some (.int v3), none, none] [] h := by
  refine g_iload_n d_260_95 rfl rfl ?_
  exact g_reti d_260_96 rfl hq

/-! 261 PlayedTruthModel.report(IIII)I -/
theorem k_261_0 {X : GX} {d : Nat} {h : Hp} {v1 : Int32} {v2 : Int32} {v3 : Int32} {v4 : Int32} (kt : ¬ v2 = 0 → G X d 261 9 [some (.ref 84), some (.int v1), some (.int v2), some (.int v3), some (.int v4), none, none] [] h) (kf : v2 = 0 → G X d 261 4 [some (.ref 84), some (.int v1), some (.int v2), some (.int v3), some (.int v4), none, none] [] h) : G X d 261 0 [some (.ref 84), some (.int v1), some (.int v2), some (.int v3), some (.int v4), none, none] [] h := by
  refine g_iload_n d_261_0 rfl rfl ?_
  exact g_if_ne (tgt := 9) d_261_1 (by decide) kt kf

theorem k_261_4 {X : GX} {d : Nat} {h : Hp} {v1 : Int32} {v2 : Int32} {v3 : Int32} {v4 : Int32} {d' : Nat} {Q' : Int32 → Hp → Prop} (hdd : d' < d) (hC : CI d' 177 [.long (Int32.toInt64 v1), .long 0, .long 15] h Q') (kk : ∀ x h', Q' x h' → G X d 261 23 [some (.ref 84), some (.int v1), some (.int v2), some (.int v3), some (.int v4), some (.int 99), none] [.int x] h') : G X d 261 4 [some (.ref 84), some (.int v1), some (.int v2), some (.int v3), some (.int v4), none, none] [] h := by
  refine g_bipush (v := 99) d_261_4 (by decide) ?_
  refine g_goto (tgt := 12) d_261_6 (by decide) ?_
  refine g_istore d_261_12 (Nat.le_of_ble_eq_true rfl) rfl ?_
  refine g_iload_n d_261_14 rfl rfl ?_
  refine g_i2l d_261_15 ?_
  refine g_lconst (v := 0) d_261_16 (by decide) ?_
  refine g_ldc2_w (v := 15) d_261_17 wd_420 ?_
  exact g_callSI (mj := 177) [.long (Int32.toInt64 v1), .long 0, .long 15] [] d_261_20 wd_395 mo_177 mc_177 mv_177 rfl rfl (Nat.le_of_ble_eq_true rfl)  hdd hC kk

theorem k_261_9 {X : GX} {d : Nat} {h : Hp} {v1 : Int32} {v2 : Int32} {v3 : Int32} {v4 : Int32} {d' : Nat} {Q' : Int32 → Hp → Prop} (hdd : d' < d) (hC : CI d' 177 [.long (Int32.toInt64 v1), .long 0, .long 15] h Q') (kk : ∀ x h', Q' x h' → G X d 261 23 [some (.ref 84), some (.int v1), some (.int v2), some (.int v3), some (.int v4), some (.int 999), none] [.int x] h') : G X d 261 9 [some (.ref 84), some (.int v1), some (.int v2), some (.int v3), some (.int v4), none, none] [] h := by
  refine g_sipush (v := 999) d_261_9 (by decide) ?_
  refine g_istore d_261_12 (Nat.le_of_ble_eq_true rfl) rfl ?_
  refine g_iload_n d_261_14 rfl rfl ?_
  refine g_i2l d_261_15 ?_
  refine g_lconst (v := 0) d_261_16 (by decide) ?_
  refine g_ldc2_w (v := 15) d_261_17 wd_420 ?_
  exact g_callSI (mj := 177) [.long (Int32.toInt64 v1), .long 0, .long 15] [] d_261_20 wd_395 mo_177 mc_177 mv_177 rfl rfl (Nat.le_of_ble_eq_true rfl)  hdd hC kk

theorem k_261_23 {X : GX} {d : Nat} {h : Hp} {v1 : Int32} {v2 : Int32} {v3 : Int32} {v4 : Int32} {v5 : Int32} {s0 : Int32} (kt : s0 = 0 → G X d 261 62 [none, none, none, none, none, none, none] [] h) (kf : ¬ s0 = 0 → G X d 261 26 [some (.ref 84), some (.int v1), some (.int v2), some (.int v3), some (.int v4), some (.int v5), none] [] h) : G X d 261 23 [some (.ref 84), some (.int v1), some (.int v2), some (.int v3), some (.int v4), some (.int v5), none] [.int s0] h := by
  exact g_if_eq (tgt := 62) d_261_23 (by decide) (fun q => g_mask [false, false, false, false, false, false, false] (kt q)) kf

theorem k_261_26 {X : GX} {d : Nat} {h : Hp} {v1 : Int32} {v2 : Int32} {v3 : Int32} {v4 : Int32} {v5 : Int32} {d' : Nat} {Q' : Int32 → Hp → Prop} (hdd : d' < d) (hC : CI d' 177 [.long (Int32.toInt64 v2), .long 0, .long 1] h Q') (kk : ∀ x h', Q' x h' → G X d 261 33 [some (.ref 84), some (.int v1), some (.int v2), some (.int v3), some (.int v4), some (.int v5), none] [.int x] h') : G X d 261 26 [some (.ref 84), some (.int v1), some (.int v2), some (.int v3), some (.int v4), some (.int v5), none] [] h := by
  refine g_iload_n d_261_26 rfl rfl ?_
  refine g_i2l d_261_27 ?_
  refine g_lconst (v := 0) d_261_28 (by decide) ?_
  refine g_lconst (v := 1) d_261_29 (by decide) ?_
  exact g_callSI (mj := 177) [.long (Int32.toInt64 v2), .long 0, .long 1] [] d_261_30 wd_395 mo_177 mc_177 mv_177 rfl rfl (Nat.le_of_ble_eq_true rfl)  hdd hC kk

theorem k_261_33 {X : GX} {d : Nat} {h : Hp} {v1 : Int32} {v2 : Int32} {v3 : Int32} {v4 : Int32} {v5 : Int32} {s0 : Int32} (kt : s0 = 0 → G X d 261 62 [none, none, none, none, none, none, none] [] h) (kf : ¬ s0 = 0 → G X d 261 36 [some (.ref 84), some (.int v1), some (.int v2), some (.int v3), some (.int v4), some (.int v5), none] [] h) : G X d 261 33 [some (.ref 84), some (.int v1), some (.int v2), some (.int v3), some (.int v4), some (.int v5), none] [.int s0] h := by
  exact g_if_eq (tgt := 62) d_261_33 (by decide) (fun q => g_mask [false, false, false, false, false, false, false] (kt q)) kf

theorem k_261_36 {X : GX} {d : Nat} {h : Hp} {v1 : Int32} {v2 : Int32} {v3 : Int32} {v4 : Int32} {v5 : Int32} {d' : Nat} {Q' : Int32 → Hp → Prop} (hdd : d' < d) (hC : CI d' 177 [.long (Int32.toInt64 v3), .long 0, .long (Int32.toInt64 v5)] h Q') (kk : ∀ x h', Q' x h' → G X d 261 45 [some (.ref 84), some (.int v1), some (.int v2), some (.int v3), some (.int v4), some (.int v5), none] [.int x] h') : G X d 261 36 [some (.ref 84), some (.int v1), some (.int v2), some (.int v3), some (.int v4), some (.int v5), none] [] h := by
  refine g_iload_n d_261_36 rfl rfl ?_
  refine g_i2l d_261_37 ?_
  refine g_lconst (v := 0) d_261_38 (by decide) ?_
  refine g_iload d_261_39 rfl ?_
  refine g_i2l d_261_41 ?_
  exact g_callSI (mj := 177) [.long (Int32.toInt64 v3), .long 0, .long (Int32.toInt64 v5)] [] d_261_42 wd_395 mo_177 mc_177 mv_177 rfl rfl (Nat.le_of_ble_eq_true rfl)  hdd hC kk

theorem k_261_45 {X : GX} {d : Nat} {h : Hp} {v1 : Int32} {v2 : Int32} {v3 : Int32} {v4 : Int32} {v5 : Int32} {s0 : Int32} (kt : s0 = 0 → G X d 261 62 [none, none, none, none, none, none, none] [] h) (kf : ¬ s0 = 0 → G X d 261 48 [some (.ref 84), some (.int v1), some (.int v2), some (.int v3), some (.int v4), some (.int v5), none] [] h) : G X d 261 45 [some (.ref 84), some (.int v1), some (.int v2), some (.int v3), some (.int v4), some (.int v5), none] [.int s0] h := by
  exact g_if_eq (tgt := 62) d_261_45 (by decide) (fun q => g_mask [false, false, false, false, false, false, false] (kt q)) kf

theorem k_261_48 {X : GX} {d : Nat} {h : Hp} {v1 : Int32} {v2 : Int32} {v3 : Int32} {v4 : Int32} {v5 : Int32} {d' : Nat} {Q' : Int32 → Hp → Prop} (hdd : d' < d) (hC : CI d' 177 [.long (Int32.toInt64 v4), .long (Int32.toInt64 v3), .long (Int32.toInt64 v5)] h Q') (kk : ∀ x h', Q' x h' → G X d 261 59 [some (.ref 84), some (.int v1), some (.int v2), some (.int v3), some (.int v4), none, none] [.int x] h') : G X d 261 48 [some (.ref 84), some (.int v1), some (.int v2), some (.int v3), some (.int v4), some (.int v5), none] [] h := by
  refine g_iload d_261_48 rfl ?_
  refine g_i2l d_261_50 ?_
  refine g_iload_n d_261_51 rfl rfl ?_
  refine g_i2l d_261_52 ?_
  refine g_iload d_261_53 rfl ?_
  refine g_i2l d_261_55 ?_
  exact g_callSI (mj := 177) [.long (Int32.toInt64 v4), .long (Int32.toInt64 v3), .long (Int32.toInt64 v5)] [] d_261_56 wd_395 mo_177 mc_177 mv_177 rfl rfl (Nat.le_of_ble_eq_true rfl)  hdd hC (fun x h' q => g_mask [true, true, true, true, true, false, false] (kk x h' q))

theorem k_261_59 {X : GX} {d : Nat} {h : Hp} {v1 : Int32} {v2 : Int32} {v3 : Int32} {v4 : Int32} {s0 : Int32} (kt : ¬ s0 = 0 → G X d 261 64 [some (.ref 84), some (.int v1), some (.int v2), some (.int v3), some (.int v4), none, none] [] h) (kf : s0 = 0 → G X d 261 62 [none, none, none, none, none, none, none] [] h) : G X d 261 59 [some (.ref 84), some (.int v1), some (.int v2), some (.int v3), some (.int v4), none, none] [.int s0] h := by
  exact g_if_ne (tgt := 64) d_261_59 (by decide) kt (fun q => g_mask [false, false, false, false, false, false, false] (kf q))

theorem k_261_62 {X : GX} {d : Nat} {h : Hp} (hq : RtX X (some (.int ((-1)))) h) : G X d 261 62 [none, none, none, none, none, none, none] [] h := by
  refine g_iconst (v := (-1)) d_261_62 (by decide) ?_
  exact g_reti d_261_63 rfl hq

theorem k_261_64 {X : GX} {d : Nat} {h : Hp} {v1 : Int32} {v2 : Int32} {v3 : Int32} {v4 : Int32} (b0 : IA 85 6) (kt : ¬ (h 85 (Int32.toNatClampNeg 6)) = 6 → G X d 261 79 [some (.ref 84), some (.int v1), some (.int v2), some (.int v3), some (.int v4), none, none] [] h) (kf : (h 85 (Int32.toNatClampNeg 6)) = 6 → G X d 261 76 [none, none, none, none, none, none, none] [] h) : G X d 261 64 [some (.ref 84), some (.int v1), some (.int v2), some (.int v3), some (.int v4), none, none] [] h := by
  refine g_aload_n d_261_64 rfl rfl ?_
  refine g_getf (ci := 9) (k := 0) d_261_65 wd_355 (Nat.le_of_ble_eq_true rfl) rfl rfl ?_
  refine g_bipush (v := 6) d_261_68 (by decide) ?_
  refine g_iald d_261_70 b0 ?_
  refine g_bipush (v := 6) d_261_71 (by decide) ?_
  exact g_icmp_ne (tgt := 79) d_261_73 (by decide) kt (fun q => g_mask [false, false, false, false, false, false, false] (kf q))

theorem k_261_76 {X : GX} {d : Nat} {h : Hp} (hq : RtX X (some (.int ((-2)))) h) : G X d 261 76 [none, none, none, none, none, none, none] [] h := by
  refine g_bipush (v := (-2)) d_261_76 (by decide) ?_
  exact g_reti d_261_78 rfl hq

theorem k_261_79 {X : GX} {d : Nat} {h : Hp} {v1 : Int32} {v2 : Int32} {v3 : Int32} {v4 : Int32} (b0 : IA 85 6) (b1 : IA 85 (65 + (4 * (h 85 (Int32.toNatClampNeg 6))))) (b2 : IA 85 ((65 + (4 * (h 85 (Int32.toNatClampNeg 6)))) + 1)) (b3 : IA 85 ((65 + (4 * (h 85 (Int32.toNatClampNeg 6)))) + 2)) (b4 : IA 85 ((65 + (4 * (h 85 (Int32.toNatClampNeg 6)))) + 3)) (hq : RtX X (some (.int (h 85 (Int32.toNatClampNeg 6)))) (wr (wr (wr (wr (wr h 85 (Int32.toNatClampNeg (65 + (4 * (h 85 (Int32.toNatClampNeg 6))))) v1) 85 (Int32.toNatClampNeg ((65 + (4 * (h 85 (Int32.toNatClampNeg 6)))) + 1)) v2) 85 (Int32.toNatClampNeg ((65 + (4 * (h 85 (Int32.toNatClampNeg 6)))) + 2)) v3) 85 (Int32.toNatClampNeg ((65 + (4 * (h 85 (Int32.toNatClampNeg 6)))) + 3)) v4) 85 (Int32.toNatClampNeg 6) (((wr (wr (wr (wr h 85 (Int32.toNatClampNeg (65 + (4 * (h 85 (Int32.toNatClampNeg 6))))) v1) 85 (Int32.toNatClampNeg ((65 + (4 * (h 85 (Int32.toNatClampNeg 6)))) + 1)) v2) 85 (Int32.toNatClampNeg ((65 + (4 * (h 85 (Int32.toNatClampNeg 6)))) + 2)) v3) 85 (Int32.toNatClampNeg ((65 + (4 * (h 85 (Int32.toNatClampNeg 6)))) + 3)) v4) 85 (Int32.toNatClampNeg 6)) + 1))) : G X d 261 79 [some (.ref 84), some (.int v1), some (.int v2), some (.int v3), some (.int v4), none, none] [] h := by
  refine g_aload_n d_261_79 rfl rfl ?_
  refine g_getf (ci := 9) (k := 0) d_261_80 wd_355 (Nat.le_of_ble_eq_true rfl) rfl rfl ?_
  refine g_bipush (v := 6) d_261_83 (by decide) ?_
  refine g_iald d_261_85 b0 ?_
  refine g_istore d_261_86 (Nat.le_of_ble_eq_true rfl) rfl ?_
  refine g_aload_n d_261_88 rfl rfl ?_
  refine g_getf (ci := 9) (k := 0) d_261_89 wd_355 (Nat.le_of_ble_eq_true rfl) rfl rfl ?_
  refine g_bipush (v := 65) d_261_92 (by decide) ?_
  refine g_iconst (v := 4) d_261_94 (by decide) ?_
  refine g_iload d_261_95 rfl ?_
  refine g_imul d_261_97 ?_
  refine g_iadd d_261_98 ?_
  refine g_iload_n d_261_99 rfl rfl ?_
  refine g_iast d_261_100 b1 ?_
  refine g_aload_n d_261_101 rfl rfl ?_
  refine g_getf (ci := 9) (k := 0) d_261_102 wd_355 (Nat.le_of_ble_eq_true rfl) rfl rfl ?_
  refine g_bipush (v := 65) d_261_105 (by decide) ?_
  refine g_iconst (v := 4) d_261_107 (by decide) ?_
  refine g_iload d_261_108 rfl ?_
  refine g_imul d_261_110 ?_
  refine g_iadd d_261_111 ?_
  refine g_iconst (v := 1) d_261_112 (by decide) ?_
  refine g_iadd d_261_113 ?_
  refine g_iload_n d_261_114 rfl rfl ?_
  refine g_iast d_261_115 b2 ?_
  refine g_aload_n d_261_116 rfl rfl ?_
  refine g_getf (ci := 9) (k := 0) d_261_117 wd_355 (Nat.le_of_ble_eq_true rfl) rfl rfl ?_
  refine g_bipush (v := 65) d_261_120 (by decide) ?_
  refine g_iconst (v := 4) d_261_122 (by decide) ?_
  refine g_iload d_261_123 rfl ?_
  refine g_imul d_261_125 ?_
  refine g_iadd d_261_126 ?_
  refine g_iconst (v := 2) d_261_127 (by decide) ?_
  refine g_iadd d_261_128 ?_
  refine g_iload_n d_261_129 rfl rfl ?_
  refine g_iast d_261_130 b3 ?_
  refine g_aload_n d_261_131 rfl rfl ?_
  refine g_getf (ci := 9) (k := 0) d_261_132 wd_355 (Nat.le_of_ble_eq_true rfl) rfl rfl ?_
  refine g_bipush (v := 65) d_261_135 (by decide) ?_
  refine g_iconst (v := 4) d_261_137 (by decide) ?_
  refine g_iload d_261_138 rfl ?_
  refine g_imul d_261_140 ?_
  refine g_iadd d_261_141 ?_
  refine g_iconst (v := 3) d_261_142 (by decide) ?_
  refine g_iadd d_261_143 ?_
  refine g_iload d_261_144 rfl ?_
  refine g_iast d_261_146 b4 ?_
  refine g_aload_n d_261_147 rfl rfl ?_
  refine g_getf (ci := 9) (k := 0) d_261_148 wd_355 (Nat.le_of_ble_eq_true rfl) rfl rfl ?_
  refine g_bipush (v := 6) d_261_151 (by decide) ?_
  refine g_dup2 d_261_153 rfl rfl ?_
  refine g_iald d_261_154 b0 ?_
  refine g_iconst (v := 1) d_261_155 (by decide) ?_
  refine g_iadd d_261_156 ?_
  refine g_iast d_261_157 b0 ?_
  refine g_iload d_261_158 rfl ?_
  exact g_reti d_261_160 rfl hq

/-! 262 PlayedTruthModel.forget()I -/
theorem k_262_0 {X : GX} {d : Nat} {h : Hp} {d' : Nat} {Q' : Int32 → Hp → Prop} (hdd : d' < d) (hC : CI d' 197 [.ref 84, .int 6, .int 0] h Q') (kk : ∀ x h', Q' x h' → G X d 262 7 [none] [.int x] h') : G X d 262 0 [some (.ref 84)] [] h := by
  refine g_aload_n d_262_0 rfl rfl ?_
  refine g_bipush (v := 6) d_262_1 (by decide) ?_
  refine g_iconst (v := 0) d_262_3 (by decide) ?_
  exact g_callVI (mj := 197) 9 [.int 6, .int 0] [] d_262_4 wd_417 mo_197 mc_197 mv_197 rfl rfl rfl (Nat.le_of_ble_eq_true rfl) rfl hdd hC (fun x h' q => g_mask [false] (kk x h' q))

theorem k_262_7 {X : GX} {d : Nat} {h : Hp} {s0 : Int32} (hq : RtX X (some (.int s0)) h) : G X d 262 7 [none] [.int s0] h := by
  exact g_reti d_262_7 rfl hq

/-! 263 PlayedTruthModel.lone(I)I -/
theorem k_263_0 {X : GX} {d : Nat} {h : Hp} {v1 : Int32} {d' : Nat} {Q' : Int32 → Hp → Prop} (hdd : d' < d) (hC : CI d' 177 [.long (Int32.toInt64 v1), .long 0, .long 3] h Q') (kk : ∀ x h', Q' x h' → G X d 263 9 [some (.ref 84), some (.int v1)] [.int x] h') : G X d 263 0 [some (.ref 84), some (.int v1)] [] h := by
  refine g_iload_n d_263_0 rfl rfl ?_
  refine g_i2l d_263_1 ?_
  refine g_lconst (v := 0) d_263_2 (by decide) ?_
  refine g_ldc2_w (v := 3) d_263_3 wd_504 ?_
  exact g_callSI (mj := 177) [.long (Int32.toInt64 v1), .long 0, .long 3] [] d_263_6 wd_395 mo_177 mc_177 mv_177 rfl rfl (Nat.le_of_ble_eq_true rfl)  hdd hC kk

theorem k_263_9 {X : GX} {d : Nat} {h : Hp} {v1 : Int32} {s0 : Int32} (kt : ¬ s0 = 0 → G X d 263 14 [some (.ref 84), some (.int v1)] [] h) (kf : s0 = 0 → G X d 263 12 [none, none] [] h) : G X d 263 9 [some (.ref 84), some (.int v1)] [.int s0] h := by
  exact g_if_ne (tgt := 14) d_263_9 (by decide) kt (fun q => g_mask [false, false] (kf q))

theorem k_263_12 {X : GX} {d : Nat} {h : Hp} (hq : RtX X (some (.int ((-1)))) h) : G X d 263 12 [none, none] [] h := by
  refine g_iconst (v := (-1)) d_263_12 (by decide) ?_
  exact g_reti d_263_13 rfl hq

theorem k_263_14 {X : GX} {d : Nat} {h : Hp} {v1 : Int32} {d' : Nat} {Q' : Hp → Prop} (hdd : d' < d) (hC : CV d' 264 [.ref 84, .int 0] h Q') (kk : ∀ h', Q' h' → G X d 263 19 [some (.ref 84), some (.int v1)] [] h') : G X d 263 14 [some (.ref 84), some (.int v1)] [] h := by
  refine g_aload_n d_263_14 rfl rfl ?_
  refine g_iconst (v := 0) d_263_15 (by decide) ?_
  exact g_callVV (mj := 264) 9 [.int 0] [] d_263_16 wd_517 mo_264 mc_264 mv_264 rfl rfl rfl (Nat.le_of_ble_eq_true rfl) rfl hdd hC kk

theorem k_263_19 {X : GX} {d : Nat} {h : Hp} {v1 : Int32} (kt : ¬ v1 = 0 → G X d 263 28 [some (.ref 84), some (.int v1)] [] h) (kf : v1 = 0 → G X d 263 23 [some (.ref 84), none] [] h) : G X d 263 19 [some (.ref 84), some (.int v1)] [] h := by
  refine g_iload_n d_263_19 rfl rfl ?_
  exact g_if_ne (tgt := 28) d_263_20 (by decide) kt (fun q => g_mask [true, false] (kf q))

theorem k_263_23 {X : GX} {d : Nat} {h : Hp} (hq : RtX X (some (.int (h 84 24))) h) : G X d 263 23 [some (.ref 84), none] [] h := by
  refine g_aload_n d_263_23 rfl rfl ?_
  refine g_getf (ci := 9) (k := 24) d_263_24 wd_379 (Nat.le_of_ble_eq_true rfl) rfl rfl ?_
  exact g_reti d_263_27 rfl hq

theorem k_263_28 {X : GX} {d : Nat} {h : Hp} {v1 : Int32} (kt : 0 ≤ (h 84 25) → G X d 263 40 [some (.ref 84), some (.int v1)] [] h) (kf : ¬ 0 ≤ (h 84 25) → G X d 263 35 [none, none] [] h) : G X d 263 28 [some (.ref 84), some (.int v1)] [] h := by
  refine g_aload_n d_263_28 rfl rfl ?_
  refine g_getf (ci := 9) (k := 25) d_263_29 wd_380 (Nat.le_of_ble_eq_true rfl) rfl rfl ?_
  exact g_if_ge (tgt := 40) d_263_32 (by decide) kt (fun q => g_mask [false, false] (kf q))

theorem k_263_35 {X : GX} {d : Nat} {h : Hp} (hq : RtX X (some (.int ((-3)))) h) : G X d 263 35 [none, none] [] h := by
  refine g_bipush (v := (-3)) d_263_35 (by decide) ?_
  refine g_goto (tgt := 85) d_263_37 (by decide) ?_
  exact g_reti d_263_85 rfl hq

theorem k_263_40 {X : GX} {d : Nat} {h : Hp} {v1 : Int32} (kt : ¬ v1 = 1 → G X d 263 57 [some (.ref 84), some (.int v1)] [] h) (kf : v1 = 1 → G X d 263 45 [some (.ref 84), none] [] h) : G X d 263 40 [some (.ref 84), some (.int v1)] [] h := by
  refine g_iload_n d_263_40 rfl rfl ?_
  refine g_iconst (v := 1) d_263_41 (by decide) ?_
  exact g_icmp_ne (tgt := 57) d_263_42 (by decide) kt (fun q => g_mask [true, false] (kf q))

theorem k_263_45 {X : GX} {d : Nat} {h : Hp} (hq : RtX X (some (.int (1 + ((h 84 25) / 100)))) h) : G X d 263 45 [some (.ref 84), none] [] h := by
  refine g_iconst (v := 1) d_263_45 (by decide) ?_
  refine g_aload_n d_263_46 rfl rfl ?_
  refine g_getf (ci := 9) (k := 25) d_263_47 wd_380 (Nat.le_of_ble_eq_true rfl) rfl rfl ?_
  refine g_bipush (v := 100) d_263_50 (by decide) ?_
  refine g_idiv d_263_52 (by decide) ?_
  refine g_iadd d_263_53 ?_
  refine g_goto (tgt := 85) d_263_54 (by decide) ?_
  exact g_reti d_263_85 rfl hq

theorem k_263_57 {X : GX} {d : Nat} {h : Hp} {v1 : Int32} (kt : ¬ v1 = 2 → G X d 263 75 [some (.ref 84), none] [] h) (kf : v1 = 2 → G X d 263 62 [some (.ref 84), none] [] h) : G X d 263 57 [some (.ref 84), some (.int v1)] [] h := by
  refine g_iload_n d_263_57 rfl rfl ?_
  refine g_iconst (v := 2) d_263_58 (by decide) ?_
  exact g_icmp_ne (tgt := 75) d_263_59 (by decide) (fun q => g_mask [true, false] (kt q)) (fun q => g_mask [true, false] (kf q))

theorem k_263_62 {X : GX} {d : Nat} {h : Hp} (hq : RtX X (some (.int (((h 84 25) / 10) - ((h 84 25) / 10) / 10 * 10))) h) : G X d 263 62 [some (.ref 84), none] [] h := by
  refine g_aload_n d_263_62 rfl rfl ?_
  refine g_getf (ci := 9) (k := 25) d_263_63 wd_380 (Nat.le_of_ble_eq_true rfl) rfl rfl ?_
  refine g_bipush (v := 10) d_263_66 (by decide) ?_
  refine g_idiv d_263_68 (by decide) ?_
  refine g_bipush (v := 10) d_263_69 (by decide) ?_
  refine g_irem d_263_71 (by decide) ?_
  refine g_goto (tgt := 85) d_263_72 (by decide) ?_
  exact g_reti d_263_85 rfl hq

theorem k_263_75 {X : GX} {d : Nat} {h : Hp} (hq : RtX X (some (.int (6 * ((h 84 25) - (h 84 25) / 10 * 10)))) h) : G X d 263 75 [some (.ref 84), none] [] h := by
  refine g_bipush (v := 6) d_263_75 (by decide) ?_
  refine g_aload_n d_263_77 rfl rfl ?_
  refine g_getf (ci := 9) (k := 25) d_263_78 wd_380 (Nat.le_of_ble_eq_true rfl) rfl rfl ?_
  refine g_bipush (v := 10) d_263_81 (by decide) ?_
  refine g_irem d_263_83 (by decide) ?_
  refine g_imul d_263_84 ?_
  exact g_reti d_263_85 rfl hq

/-! 264 PlayedTruthModel.findLone(I)V -/
theorem k_264_0 {X : GX} {d : Nat} {h : Hp} {v1 : Int32} (b0 : IA 85 6) (kk : G X d 264 31 [some (.ref 84), none, some (.int (((1 <<< ((h 85 (Int32.toNatClampNeg 6)) &&& 31)) - 1) &&& (v1 ^^^ ((-1))))), some (.int 499), none] [] (wr (wr h 84 24 0) 84 25 ((-3)))) : G X d 264 0 [some (.ref 84), some (.int v1), none, none, none] [] h := by
  refine g_iconst (v := 1) d_264_0 (by decide) ?_
  refine g_aload_n d_264_1 rfl rfl ?_
  refine g_getf (ci := 9) (k := 0) d_264_2 wd_355 (Nat.le_of_ble_eq_true rfl) rfl rfl ?_
  refine g_bipush (v := 6) d_264_5 (by decide) ?_
  refine g_iald d_264_7 b0 ?_
  refine g_ishl d_264_8 ?_
  refine g_iconst (v := 1) d_264_9 (by decide) ?_
  refine g_isub d_264_10 ?_
  refine g_iload_n d_264_11 rfl rfl ?_
  refine g_iconst (v := (-1)) d_264_12 (by decide) ?_
  refine g_ixor d_264_13 ?_
  refine g_iand d_264_14 ?_
  refine g_istore_n d_264_15 rfl (Nat.le_of_ble_eq_true rfl) rfl ?_
  refine g_aload_n d_264_16 rfl rfl ?_
  refine g_iconst (v := 0) d_264_17 (by decide) ?_
  refine g_putf (ci := 9) (k := 24) d_264_18 wd_379 (Nat.le_of_ble_eq_true rfl) (Nat.le_of_ble_eq_true rfl) rfl rfl (Or.inl ⟨rfl, rfl⟩) rfl ?_
  refine g_aload_n d_264_21 rfl rfl ?_
  refine g_bipush (v := (-3)) d_264_22 (by decide) ?_
  refine g_putf (ci := 9) (k := 25) d_264_24 wd_380 (Nat.le_of_ble_eq_true rfl) (Nat.le_of_ble_eq_true rfl) rfl rfl (Or.inl ⟨rfl, rfl⟩) rfl ?_
  refine g_sipush (v := 499) d_264_27 (by decide) ?_
  refine g_istore_n d_264_30 rfl (Nat.le_of_ble_eq_true rfl) rfl ?_
  exact g_mask [true, false, true, true, false] kk

theorem k_264_31 {X : GX} {d : Nat} {h : Hp} {v2 : Int32} {v3 : Int32} (kt : v3 < 0 → G X d 264 115 [none, none, none, none, none] [] h) (kf : ¬ v3 < 0 → G X d 264 35 [some (.ref 84), none, some (.int v2), some (.int v3), none] [] h) : G X d 264 31 [some (.ref 84), none, some (.int v2), some (.int v3), none] [] h := by
  refine g_iload_n d_264_31 rfl rfl ?_
  exact g_if_lt (tgt := 115) d_264_32 (by decide) (fun q => g_mask [false, false, false, false, false] (kt q)) kf

theorem k_264_35 {X : GX} {d : Nat} {h : Hp} {v2 : Int32} {v3 : Int32} {d' : Nat} {Q' : Int32 → Hp → Prop} (hdd : d' < d) (hC : CI d' 265 [.ref 84, .int (1 + (v3 / 100)), .int ((v3 / 10) - (v3 / 10) / 10 * 10), .int (6 * (v3 - v3 / 10 * 10))] h Q') (kk : ∀ x h', Q' x h' → G X d 264 60 [some (.ref 84), none, some (.int v2), some (.int v3), none] [.int x, .int v2] h') : G X d 264 35 [some (.ref 84), none, some (.int v2), some (.int v3), none] [] h := by
  refine g_iload_n d_264_35 rfl rfl ?_
  refine g_aload_n d_264_36 rfl rfl ?_
  refine g_iconst (v := 1) d_264_37 (by decide) ?_
  refine g_iload_n d_264_38 rfl rfl ?_
  refine g_bipush (v := 100) d_264_39 (by decide) ?_
  refine g_idiv d_264_41 (by decide) ?_
  refine g_iadd d_264_42 ?_
  refine g_iload_n d_264_43 rfl rfl ?_
  refine g_bipush (v := 10) d_264_44 (by decide) ?_
  refine g_idiv d_264_46 (by decide) ?_
  refine g_bipush (v := 10) d_264_47 (by decide) ?_
  refine g_irem d_264_49 (by decide) ?_
  refine g_bipush (v := 6) d_264_50 (by decide) ?_
  refine g_iload_n d_264_52 rfl rfl ?_
  refine g_bipush (v := 10) d_264_53 (by decide) ?_
  refine g_irem d_264_55 (by decide) ?_
  refine g_imul d_264_56 ?_
  exact g_callVI (mj := 265) 9 [.int (1 + (v3 / 100)), .int ((v3 / 10) - (v3 / 10) / 10 * 10), .int (6 * (v3 - v3 / 10 * 10))] [.int v2] d_264_57 wd_518 mo_265 mc_265 mv_265 rfl rfl rfl (Nat.le_of_ble_eq_true rfl) rfl hdd hC kk

theorem k_264_60 {X : GX} {d : Nat} {h : Hp} {v2 : Int32} {v3 : Int32} {s0 : Int32} {s1 : Int32} (kt : ¬ (s1 &&& (s0 ^^^ ((-1)))) = 0 → G X d 264 70 [some (.ref 84), none, some (.int v2), some (.int v3), none] [] h) (kf : (s1 &&& (s0 ^^^ ((-1)))) = 0 → G X d 264 66 [some (.ref 84), none, some (.int v2), some (.int v3), none] [] h) : G X d 264 60 [some (.ref 84), none, some (.int v2), some (.int v3), none] [.int s0, .int s1] h := by
  refine g_iconst (v := (-1)) d_264_60 (by decide) ?_
  refine g_ixor d_264_61 ?_
  refine g_iand d_264_62 ?_
  exact g_if_ne (tgt := 70) d_264_63 (by decide) kt kf

theorem k_264_66 {X : GX} {d : Nat} {h : Hp} {v2 : Int32} {v3 : Int32} (kk : G X d 264 31 [some (.ref 84), none, some (.int v2), some (.int (v3 + (-1))), none] [] (wr (wr h 84 24 ((h 84 24) + 1)) 84 25 v3)) : G X d 264 66 [some (.ref 84), none, some (.int v2), some (.int v3), none] [] h := by
  refine g_iconst (v := 1) d_264_66 (by decide) ?_
  refine g_goto (tgt := 71) d_264_67 (by decide) ?_
  refine g_istore d_264_71 (Nat.le_of_ble_eq_true rfl) rfl ?_
  refine g_aload_n d_264_73 rfl rfl ?_
  refine g_dup d_264_74 rfl ?_
  refine g_getf (ci := 9) (k := 24) d_264_75 wd_379 (Nat.le_of_ble_eq_true rfl) rfl rfl ?_
  refine g_iload d_264_78 rfl ?_
  refine g_if_eq (tgt := 87) d_264_80 (by decide) (fun q => absurd q (by decide)) (fun _ => ?_)
  refine g_iconst (v := 1) d_264_83 (by decide) ?_
  refine g_goto (tgt := 88) d_264_84 (by decide) ?_
  refine g_iadd d_264_88 ?_
  refine g_putf (ci := 9) (k := 24) d_264_89 wd_379 (Nat.le_of_ble_eq_true rfl) (Nat.le_of_ble_eq_true rfl) rfl rfl (Or.inl ⟨rfl, rfl⟩) rfl ?_
  refine g_aload_n d_264_92 rfl rfl ?_
  refine g_iload d_264_93 rfl ?_
  refine g_if_eq (tgt := 102) d_264_95 (by decide) (fun q => absurd q (by decide)) (fun _ => ?_)
  refine g_iload_n d_264_98 rfl rfl ?_
  refine g_goto (tgt := 106) d_264_99 (by decide) ?_
  refine g_putf (ci := 9) (k := 25) d_264_106 wd_380 (Nat.le_of_ble_eq_true rfl) (Nat.le_of_ble_eq_true rfl) rfl rfl (Or.inl ⟨rfl, rfl⟩) rfl ?_
  refine g_iinc (w := (-1)) d_264_109 rfl (by decide) (Nat.le_of_ble_eq_true rfl) rfl ?_
  refine g_goto (tgt := 31) d_264_112 (by decide) ?_
  exact g_mask [true, false, true, true, false] kk

theorem k_264_70 {X : GX} {d : Nat} {h : Hp} {v2 : Int32} {v3 : Int32} (kk : G X d 264 31 [some (.ref 84), none, some (.int v2), some (.int (v3 + (-1))), none] [] (wr (wr h 84 24 ((h 84 24) + 0)) 84 25 ((wr h 84 24 ((h 84 24) + 0)) 84 25))) : G X d 264 70 [some (.ref 84), none, some (.int v2), some (.int v3), none] [] h := by
  refine g_iconst (v := 0) d_264_70 (by decide) ?_
  refine g_istore d_264_71 (Nat.le_of_ble_eq_true rfl) rfl ?_
  refine g_aload_n d_264_73 rfl rfl ?_
  refine g_dup d_264_74 rfl ?_
  refine g_getf (ci := 9) (k := 24) d_264_75 wd_379 (Nat.le_of_ble_eq_true rfl) rfl rfl ?_
  refine g_iload d_264_78 rfl ?_
  refine g_if_eq (tgt := 87) d_264_80 (by decide) (fun _ => ?_) (fun q => absurd q (by decide))
  refine g_iconst (v := 0) d_264_87 (by decide) ?_
  refine g_iadd d_264_88 ?_
  refine g_putf (ci := 9) (k := 24) d_264_89 wd_379 (Nat.le_of_ble_eq_true rfl) (Nat.le_of_ble_eq_true rfl) rfl rfl (Or.inl ⟨rfl, rfl⟩) rfl ?_
  refine g_aload_n d_264_92 rfl rfl ?_
  refine g_iload d_264_93 rfl ?_
  refine g_if_eq (tgt := 102) d_264_95 (by decide) (fun _ => ?_) (fun q => absurd q (by decide))
  refine g_aload_n d_264_102 rfl rfl ?_
  refine g_getf (ci := 9) (k := 25) d_264_103 wd_380 (Nat.le_of_ble_eq_true rfl) rfl rfl ?_
  refine g_putf (ci := 9) (k := 25) d_264_106 wd_380 (Nat.le_of_ble_eq_true rfl) (Nat.le_of_ble_eq_true rfl) rfl rfl (Or.inl ⟨rfl, rfl⟩) rfl ?_
  refine g_iinc (w := (-1)) d_264_109 rfl (by decide) (Nat.le_of_ble_eq_true rfl) rfl ?_
  refine g_goto (tgt := 31) d_264_112 (by decide) ?_
  exact g_mask [true, false, true, true, false] kk

theorem k_264_83 {X : GX} {d : Nat} {h : Hp} {v2 : Int32} {v3 : Int32} {v4 : Int32} {s0 : Int32} {s1 : Nat} (o0 : sh s1 = (1, 9)) (kt : v4 = 0 → G X d 264 102 [some (.ref 84), none, some (.int v2), some (.int v3), none] [.ref 84] (wr h s1 24 (s0 + 1))) (kf : ¬ v4 = 0 → G X d 264 98 [some (.ref 84), none, some (.int v2), some (.int v3), none] [.ref 84] (wr h s1 24 (s0 + 1))) : G X d 264 83 [some (.ref 84), none, some (.int v2), some (.int v3), some (.int v4)] [.int s0, .ref s1] h := by
  refine g_iconst (v := 1) d_264_83 (by decide) ?_
  refine g_goto (tgt := 88) d_264_84 (by decide) ?_
  refine g_iadd d_264_88 ?_
  refine g_putf (ci := 9) (k := 24) d_264_89 wd_379 (Nat.le_of_ble_eq_true rfl) (Nat.le_of_ble_eq_true rfl) rfl rfl (Or.inl ⟨rfl, rfl⟩) o0 ?_
  refine g_aload_n d_264_92 rfl rfl ?_
  refine g_iload d_264_93 rfl ?_
  exact g_if_eq (tgt := 102) d_264_95 (by decide) (fun q => g_mask [true, false, true, true, false] (kt q)) (fun q => g_mask [true, false, true, true, false] (kf q))

theorem k_264_87 {X : GX} {d : Nat} {h : Hp} {v2 : Int32} {v3 : Int32} {v4 : Int32} {s0 : Int32} {s1 : Nat} (o0 : sh s1 = (1, 9)) (kt : v4 = 0 → G X d 264 102 [some (.ref 84), none, some (.int v2), some (.int v3), none] [.ref 84] (wr h s1 24 (s0 + 0))) (kf : ¬ v4 = 0 → G X d 264 98 [some (.ref 84), none, some (.int v2), some (.int v3), none] [.ref 84] (wr h s1 24 (s0 + 0))) : G X d 264 87 [some (.ref 84), none, some (.int v2), some (.int v3), some (.int v4)] [.int s0, .ref s1] h := by
  refine g_iconst (v := 0) d_264_87 (by decide) ?_
  refine g_iadd d_264_88 ?_
  refine g_putf (ci := 9) (k := 24) d_264_89 wd_379 (Nat.le_of_ble_eq_true rfl) (Nat.le_of_ble_eq_true rfl) rfl rfl (Or.inl ⟨rfl, rfl⟩) o0 ?_
  refine g_aload_n d_264_92 rfl rfl ?_
  refine g_iload d_264_93 rfl ?_
  exact g_if_eq (tgt := 102) d_264_95 (by decide) (fun q => g_mask [true, false, true, true, false] (kt q)) (fun q => g_mask [true, false, true, true, false] (kf q))

theorem k_264_98 {X : GX} {d : Nat} {h : Hp} {v2 : Int32} {v3 : Int32} {s0 : Nat} (o0 : sh s0 = (1, 9)) (kk : G X d 264 31 [some (.ref 84), none, some (.int v2), some (.int (v3 + (-1))), none] [] (wr h s0 25 v3)) : G X d 264 98 [some (.ref 84), none, some (.int v2), some (.int v3), none] [.ref s0] h := by
  refine g_iload_n d_264_98 rfl rfl ?_
  refine g_goto (tgt := 106) d_264_99 (by decide) ?_
  refine g_putf (ci := 9) (k := 25) d_264_106 wd_380 (Nat.le_of_ble_eq_true rfl) (Nat.le_of_ble_eq_true rfl) rfl rfl (Or.inl ⟨rfl, rfl⟩) o0 ?_
  refine g_iinc (w := (-1)) d_264_109 rfl (by decide) (Nat.le_of_ble_eq_true rfl) rfl ?_
  refine g_goto (tgt := 31) d_264_112 (by decide) ?_
  exact kk

theorem k_264_102 {X : GX} {d : Nat} {h : Hp} {v2 : Int32} {v3 : Int32} {s0 : Nat} (o0 : sh s0 = (1, 9)) (kk : G X d 264 31 [some (.ref 84), none, some (.int v2), some (.int (v3 + (-1))), none] [] (wr h s0 25 (h 84 25))) : G X d 264 102 [some (.ref 84), none, some (.int v2), some (.int v3), none] [.ref s0] h := by
  refine g_aload_n d_264_102 rfl rfl ?_
  refine g_getf (ci := 9) (k := 25) d_264_103 wd_380 (Nat.le_of_ble_eq_true rfl) rfl rfl ?_
  refine g_putf (ci := 9) (k := 25) d_264_106 wd_380 (Nat.le_of_ble_eq_true rfl) (Nat.le_of_ble_eq_true rfl) rfl rfl (Or.inl ⟨rfl, rfl⟩) o0 ?_
  refine g_iinc (w := (-1)) d_264_109 rfl (by decide) (Nat.le_of_ble_eq_true rfl) rfl ?_
  refine g_goto (tgt := 31) d_264_112 (by decide) ?_
  exact kk

theorem k_264_115 {X : GX} {d : Nat} {h : Hp} (hq : RtX X none h) : G X d 264 115 [none, none, none, none, none] [] h := by
  exact g_retv d_264_115 rfl hq

/-! 265 PlayedTruthModel.fitting(III)I -/
theorem k_265_0 {X : GX} {d : Nat} {h : Hp} {v1 : Int32} {v2 : Int32} {v3 : Int32} (kk : G X d 265 12 [some (.ref 84), some (.int v1), some (.int v2), none, some (.int 0), some (.int v3), some (.int 0), some (.int 0), none, none, none] [] h) : G X d 265 0 [some (.ref 84), some (.int v1), some (.int v2), some (.int v3), none, none, none, none, none, none, none] [] h := by
  refine g_iconst (v := 0) d_265_0 (by decide) ?_
  refine g_istore d_265_1 (Nat.le_of_ble_eq_true rfl) rfl ?_
  refine g_iload_n d_265_3 rfl rfl ?_
  refine g_istore d_265_4 (Nat.le_of_ble_eq_true rfl) rfl ?_
  refine g_iconst (v := 0) d_265_6 (by decide) ?_
  refine g_istore d_265_7 (Nat.le_of_ble_eq_true rfl) rfl ?_
  refine g_iconst (v := 0) d_265_9 (by decide) ?_
  refine g_istore d_265_10 (Nat.le_of_ble_eq_true rfl) rfl ?_
  exact g_mask [true, true, true, false, true, true, true, true, false, false, false] kk

theorem k_265_12 {X : GX} {d : Nat} {h : Hp} {v1 : Int32} {v2 : Int32} {v4 : Int32} {v5 : Int32} {v6 : Int32} {v7 : Int32} (kt : 16 ≤ v7 → G X d 265 197 [none, none, none, none, some (.int v4), none, none, none, none, none, none] [] h) (kf : ¬ 16 ≤ v7 → G X d 265 19 [some (.ref 84), some (.int v1), some (.int v2), none, some (.int v4), some (.int v5), some (.int v6), some (.int v7), none, none, none] [] h) : G X d 265 12 [some (.ref 84), some (.int v1), some (.int v2), none, some (.int v4), some (.int v5), some (.int v6), some (.int v7), none, none, none] [] h := by
  refine g_iload d_265_12 rfl ?_
  refine g_bipush (v := 16) d_265_14 (by decide) ?_
  exact g_icmp_ge (tgt := 197) d_265_16 (by decide) (fun q => g_mask [false, false, false, false, true, false, false, false, false, false, false] (kt q)) kf

theorem k_265_19 {X : GX} {d : Nat} {h : Hp} {v1 : Int32} {v2 : Int32} {v4 : Int32} {v5 : Int32} {v6 : Int32} {v7 : Int32} (kk : G X d 265 22 [some (.ref 84), some (.int v1), some (.int v2), none, some (.int v4), some (.int v5), some (.int v6), some (.int v7), some (.int 0), none, none] [] h) : G X d 265 19 [some (.ref 84), some (.int v1), some (.int v2), none, some (.int v4), some (.int v5), some (.int v6), some (.int v7), none, none, none] [] h := by
  refine g_iconst (v := 0) d_265_19 (by decide) ?_
  refine g_istore d_265_20 (Nat.le_of_ble_eq_true rfl) rfl ?_
  exact kk

theorem k_265_22 {X : GX} {d : Nat} {h : Hp} {v1 : Int32} {v2 : Int32} {v4 : Int32} {v5 : Int32} {v6 : Int32} {v7 : Int32} {v8 : Int32} (b0 : IA 85 6) (kt : (h 85 (Int32.toNatClampNeg 6)) ≤ v8 → G X d 265 147 [some (.ref 84), some (.int v1), some (.int v2), none, some (.int v4), some (.int v5), some (.int v6), some (.int v7), none, none, none] [] h) (kf : ¬ (h 85 (Int32.toNatClampNeg 6)) ≤ v8 → G X d 265 34 [some (.ref 84), some (.int v1), some (.int v2), none, some (.int v4), some (.int v5), some (.int v6), some (.int v7), some (.int v8), none, none] [] h) : G X d 265 22 [some (.ref 84), some (.int v1), some (.int v2), none, some (.int v4), some (.int v5), some (.int v6), some (.int v7), some (.int v8), none, none] [] h := by
  refine g_iload d_265_22 rfl ?_
  refine g_aload_n d_265_24 rfl rfl ?_
  refine g_getf (ci := 9) (k := 0) d_265_25 wd_355 (Nat.le_of_ble_eq_true rfl) rfl rfl ?_
  refine g_bipush (v := 6) d_265_28 (by decide) ?_
  refine g_iald d_265_30 b0 ?_
  exact g_icmp_ge (tgt := 147) d_265_31 (by decide) (fun q => g_mask [true, true, true, false, true, true, true, true, false, false, false] (kt q)) kf

theorem k_265_34 {X : GX} {d : Nat} {h : Hp} {v1 : Int32} {v2 : Int32} {v4 : Int32} {v5 : Int32} {v6 : Int32} {v7 : Int32} {v8 : Int32} (b0 : IA 85 ((65 + (4 * v8)) + 1)) (kt : ¬ (h 85 (Int32.toNatClampNeg ((65 + (4 * v8)) + 1))) = 0 → G X d 265 56 [some (.ref 84), some (.int v1), some (.int v2), none, some (.int v4), some (.int v5), some (.int v6), some (.int v7), some (.int v8), none, none] [] h) (kf : (h 85 (Int32.toNatClampNeg ((65 + (4 * v8)) + 1))) = 0 → G X d 265 51 [some (.ref 84), some (.int v1), some (.int v2), none, some (.int v4), some (.int v5), some (.int v6), some (.int v7), some (.int v8), none, none] [] h) : G X d 265 34 [some (.ref 84), some (.int v1), some (.int v2), none, some (.int v4), some (.int v5), some (.int v6), some (.int v7), some (.int v8), none, none] [] h := by
  refine g_aload_n d_265_34 rfl rfl ?_
  refine g_getf (ci := 9) (k := 0) d_265_35 wd_355 (Nat.le_of_ble_eq_true rfl) rfl rfl ?_
  refine g_bipush (v := 65) d_265_38 (by decide) ?_
  refine g_iconst (v := 4) d_265_40 (by decide) ?_
  refine g_iload d_265_41 rfl ?_
  refine g_imul d_265_43 ?_
  refine g_iadd d_265_44 ?_
  refine g_iconst (v := 1) d_265_45 (by decide) ?_
  refine g_iadd d_265_46 ?_
  refine g_iald d_265_47 b0 ?_
  exact g_if_ne (tgt := 56) d_265_48 (by decide) kt kf

theorem k_265_51 {X : GX} {d : Nat} {h : Hp} {v1 : Int32} {v2 : Int32} {v4 : Int32} {v5 : Int32} {v6 : Int32} {v7 : Int32} {v8 : Int32} (b0 : IA 85 (65 + (4 * v8))) (kt : ¬ (h 85 (Int32.toNatClampNeg (65 + (4 * v8)))) = v7 → G X d 265 120 [some (.ref 84), some (.int v1), some (.int v2), none, some (.int v4), some (.int v5), some (.int v6), some (.int v7), some (.int v8), none, none] [] h) (kf : (h 85 (Int32.toNatClampNeg (65 + (4 * v8)))) = v7 → G X d 265 77 [some (.ref 84), some (.int v1), some (.int v2), none, some (.int v4), some (.int v5), some (.int v6), some (.int v7), some (.int v8), some (.int v5), none] [] h) : G X d 265 51 [some (.ref 84), some (.int v1), some (.int v2), none, some (.int v4), some (.int v5), some (.int v6), some (.int v7), some (.int v8), none, none] [] h := by
  refine g_iload d_265_51 rfl ?_
  refine g_goto (tgt := 58) d_265_53 (by decide) ?_
  refine g_istore d_265_58 (Nat.le_of_ble_eq_true rfl) rfl ?_
  refine g_aload_n d_265_60 rfl rfl ?_
  refine g_getf (ci := 9) (k := 0) d_265_61 wd_355 (Nat.le_of_ble_eq_true rfl) rfl rfl ?_
  refine g_bipush (v := 65) d_265_64 (by decide) ?_
  refine g_iconst (v := 4) d_265_66 (by decide) ?_
  refine g_iload d_265_67 rfl ?_
  refine g_imul d_265_69 ?_
  refine g_iadd d_265_70 ?_
  refine g_iald d_265_71 b0 ?_
  refine g_iload d_265_72 rfl ?_
  exact g_icmp_ne (tgt := 120) d_265_74 (by decide) (fun q => g_mask [true, true, true, false, true, true, true, true, true, false, false] (kt q)) kf

theorem k_265_56 {X : GX} {d : Nat} {h : Hp} {v1 : Int32} {v2 : Int32} {v4 : Int32} {v5 : Int32} {v6 : Int32} {v7 : Int32} {v8 : Int32} (b0 : IA 85 (65 + (4 * v8))) (kt : ¬ (h 85 (Int32.toNatClampNeg (65 + (4 * v8)))) = v7 → G X d 265 120 [some (.ref 84), some (.int v1), some (.int v2), none, some (.int v4), some (.int v5), some (.int v6), some (.int v7), some (.int v8), none, none] [] h) (kf : (h 85 (Int32.toNatClampNeg (65 + (4 * v8)))) = v7 → G X d 265 77 [some (.ref 84), some (.int v1), some (.int v2), none, some (.int v4), some (.int v5), some (.int v6), some (.int v7), some (.int v8), some (.int v6), none] [] h) : G X d 265 56 [some (.ref 84), some (.int v1), some (.int v2), none, some (.int v4), some (.int v5), some (.int v6), some (.int v7), some (.int v8), none, none] [] h := by
  refine g_iload d_265_56 rfl ?_
  refine g_istore d_265_58 (Nat.le_of_ble_eq_true rfl) rfl ?_
  refine g_aload_n d_265_60 rfl rfl ?_
  refine g_getf (ci := 9) (k := 0) d_265_61 wd_355 (Nat.le_of_ble_eq_true rfl) rfl rfl ?_
  refine g_bipush (v := 65) d_265_64 (by decide) ?_
  refine g_iconst (v := 4) d_265_66 (by decide) ?_
  refine g_iload d_265_67 rfl ?_
  refine g_imul d_265_69 ?_
  refine g_iadd d_265_70 ?_
  refine g_iald d_265_71 b0 ?_
  refine g_iload d_265_72 rfl ?_
  exact g_icmp_ne (tgt := 120) d_265_74 (by decide) (fun q => g_mask [true, true, true, false, true, true, true, true, true, false, false] (kt q)) kf

theorem k_265_77 {X : GX} {d : Nat} {h : Hp} {v1 : Int32} {v2 : Int32} {v4 : Int32} {v5 : Int32} {v6 : Int32} {v7 : Int32} {v8 : Int32} {v9 : Int32} {d' : Nat} {Q' : Int32 → Hp → Prop} (b0 : IA 85 ((65 + (4 * v8)) + 2)) (b1 : IA 85 ((65 + (4 * v8)) + 3)) (hdd : d' < d) (hC : CI d' 177 [.long (Int32.toInt64 v9), .long (Int32.toInt64 (h 85 (Int32.toNatClampNeg ((65 + (4 * v8)) + 2)))), .long (Int32.toInt64 (h 85 (Int32.toNatClampNeg ((65 + (4 * v8)) + 3))))] h Q') (kk : ∀ x h', Q' x h' → G X d 265 113 [some (.ref 84), some (.int v1), some (.int v2), none, some (.int v4), some (.int v5), some (.int v6), some (.int v7), some (.int v8), none, none] [.int x] h') : G X d 265 77 [some (.ref 84), some (.int v1), some (.int v2), none, some (.int v4), some (.int v5), some (.int v6), some (.int v7), some (.int v8), some (.int v9), none] [] h := by
  refine g_iload d_265_77 rfl ?_
  refine g_i2l d_265_79 ?_
  refine g_aload_n d_265_80 rfl rfl ?_
  refine g_getf (ci := 9) (k := 0) d_265_81 wd_355 (Nat.le_of_ble_eq_true rfl) rfl rfl ?_
  refine g_bipush (v := 65) d_265_84 (by decide) ?_
  refine g_iconst (v := 4) d_265_86 (by decide) ?_
  refine g_iload d_265_87 rfl ?_
  refine g_imul d_265_89 ?_
  refine g_iadd d_265_90 ?_
  refine g_iconst (v := 2) d_265_91 (by decide) ?_
  refine g_iadd d_265_92 ?_
  refine g_iald d_265_93 b0 ?_
  refine g_i2l d_265_94 ?_
  refine g_aload_n d_265_95 rfl rfl ?_
  refine g_getf (ci := 9) (k := 0) d_265_96 wd_355 (Nat.le_of_ble_eq_true rfl) rfl rfl ?_
  refine g_bipush (v := 65) d_265_99 (by decide) ?_
  refine g_iconst (v := 4) d_265_101 (by decide) ?_
  refine g_iload d_265_102 rfl ?_
  refine g_imul d_265_104 ?_
  refine g_iadd d_265_105 ?_
  refine g_iconst (v := 3) d_265_106 (by decide) ?_
  refine g_iadd d_265_107 ?_
  refine g_iald d_265_108 b1 ?_
  refine g_i2l d_265_109 ?_
  exact g_callSI (mj := 177) [.long (Int32.toInt64 v9), .long (Int32.toInt64 (h 85 (Int32.toNatClampNeg ((65 + (4 * v8)) + 2)))), .long (Int32.toInt64 (h 85 (Int32.toNatClampNeg ((65 + (4 * v8)) + 3))))] [] d_265_110 wd_395 mo_177 mc_177 mv_177 rfl rfl (Nat.le_of_ble_eq_true rfl)  hdd hC (fun x h' q => g_mask [true, true, true, false, true, true, true, true, true, false, false] (kk x h' q))

theorem k_265_113 {X : GX} {d : Nat} {h : Hp} {v1 : Int32} {v2 : Int32} {v4 : Int32} {v5 : Int32} {v6 : Int32} {v7 : Int32} {v8 : Int32} {s0 : Int32} (kt : s0 = 0 → G X d 265 120 [some (.ref 84), some (.int v1), some (.int v2), none, some (.int v4), some (.int v5), some (.int v6), some (.int v7), some (.int v8), none, none] [] h) (kf : ¬ s0 = 0 → G X d 265 116 [some (.ref 84), some (.int v1), some (.int v2), none, some (.int v4), some (.int v5), some (.int v6), some (.int v7), some (.int v8), none, none] [] h) : G X d 265 113 [some (.ref 84), some (.int v1), some (.int v2), none, some (.int v4), some (.int v5), some (.int v6), some (.int v7), some (.int v8), none, none] [.int s0] h := by
  exact g_if_eq (tgt := 120) d_265_113 (by decide) kt kf

theorem k_265_116 {X : GX} {d : Nat} {h : Hp} {v1 : Int32} {v2 : Int32} {v4 : Int32} {v5 : Int32} {v6 : Int32} {v7 : Int32} {v8 : Int32} (kk : G X d 265 22 [some (.ref 84), some (.int v1), some (.int v2), none, some (.int (v4 ||| (1 <<< (v8 &&& 31)))), some (.int v5), some (.int v6), some (.int v7), some (.int (v8 + 1)), none, none] [] h) : G X d 265 116 [some (.ref 84), some (.int v1), some (.int v2), none, some (.int v4), some (.int v5), some (.int v6), some (.int v7), some (.int v8), none, none] [] h := by
  refine g_iconst (v := 1) d_265_116 (by decide) ?_
  refine g_goto (tgt := 121) d_265_117 (by decide) ?_
  refine g_istore d_265_121 (Nat.le_of_ble_eq_true rfl) rfl ?_
  refine g_iload d_265_123 rfl ?_
  refine g_iload d_265_125 rfl ?_
  refine g_if_eq (tgt := 137) d_265_127 (by decide) (fun q => absurd q (by decide)) (fun _ => ?_)
  refine g_iconst (v := 1) d_265_130 (by decide) ?_
  refine g_iload d_265_131 rfl ?_
  refine g_ishl d_265_133 ?_
  refine g_goto (tgt := 138) d_265_134 (by decide) ?_
  refine g_ior d_265_138 ?_
  refine g_istore d_265_139 (Nat.le_of_ble_eq_true rfl) rfl ?_
  refine g_iinc (w := 1) d_265_141 rfl (by decide) (Nat.le_of_ble_eq_true rfl) rfl ?_
  refine g_goto (tgt := 22) d_265_144 (by decide) ?_
  exact g_mask [true, true, true, false, true, true, true, true, true, false, false] kk

theorem k_265_120 {X : GX} {d : Nat} {h : Hp} {v1 : Int32} {v2 : Int32} {v4 : Int32} {v5 : Int32} {v6 : Int32} {v7 : Int32} {v8 : Int32} (kk : G X d 265 22 [some (.ref 84), some (.int v1), some (.int v2), none, some (.int (v4 ||| 0)), some (.int v5), some (.int v6), some (.int v7), some (.int (v8 + 1)), none, none] [] h) : G X d 265 120 [some (.ref 84), some (.int v1), some (.int v2), none, some (.int v4), some (.int v5), some (.int v6), some (.int v7), some (.int v8), none, none] [] h := by
  refine g_iconst (v := 0) d_265_120 (by decide) ?_
  refine g_istore d_265_121 (Nat.le_of_ble_eq_true rfl) rfl ?_
  refine g_iload d_265_123 rfl ?_
  refine g_iload d_265_125 rfl ?_
  refine g_if_eq (tgt := 137) d_265_127 (by decide) (fun _ => ?_) (fun q => absurd q (by decide))
  refine g_iconst (v := 0) d_265_137 (by decide) ?_
  refine g_ior d_265_138 ?_
  refine g_istore d_265_139 (Nat.le_of_ble_eq_true rfl) rfl ?_
  refine g_iinc (w := 1) d_265_141 rfl (by decide) (Nat.le_of_ble_eq_true rfl) rfl ?_
  refine g_goto (tgt := 22) d_265_144 (by decide) ?_
  exact g_mask [true, true, true, false, true, true, true, true, true, false, false] kk

theorem k_265_130 {X : GX} {d : Nat} {h : Hp} {v1 : Int32} {v2 : Int32} {v5 : Int32} {v6 : Int32} {v7 : Int32} {v8 : Int32} {s0 : Int32} (kk : G X d 265 22 [some (.ref 84), some (.int v1), some (.int v2), none, some (.int (s0 ||| (1 <<< (v8 &&& 31)))), some (.int v5), some (.int v6), some (.int v7), some (.int (v8 + 1)), none, none] [] h) : G X d 265 130 [some (.ref 84), some (.int v1), some (.int v2), none, none, some (.int v5), some (.int v6), some (.int v7), some (.int v8), none, none] [.int s0] h := by
  refine g_iconst (v := 1) d_265_130 (by decide) ?_
  refine g_iload d_265_131 rfl ?_
  refine g_ishl d_265_133 ?_
  refine g_goto (tgt := 138) d_265_134 (by decide) ?_
  refine g_ior d_265_138 ?_
  refine g_istore d_265_139 (Nat.le_of_ble_eq_true rfl) rfl ?_
  refine g_iinc (w := 1) d_265_141 rfl (by decide) (Nat.le_of_ble_eq_true rfl) rfl ?_
  refine g_goto (tgt := 22) d_265_144 (by decide) ?_
  exact kk

theorem k_265_137 {X : GX} {d : Nat} {h : Hp} {v1 : Int32} {v2 : Int32} {v5 : Int32} {v6 : Int32} {v7 : Int32} {v8 : Int32} {s0 : Int32} (kk : G X d 265 22 [some (.ref 84), some (.int v1), some (.int v2), none, some (.int (s0 ||| 0)), some (.int v5), some (.int v6), some (.int v7), some (.int (v8 + 1)), none, none] [] h) : G X d 265 137 [some (.ref 84), some (.int v1), some (.int v2), none, none, some (.int v5), some (.int v6), some (.int v7), some (.int v8), none, none] [.int s0] h := by
  refine g_iconst (v := 0) d_265_137 (by decide) ?_
  refine g_ior d_265_138 ?_
  refine g_istore d_265_139 (Nat.le_of_ble_eq_true rfl) rfl ?_
  refine g_iinc (w := 1) d_265_141 rfl (by decide) (Nat.le_of_ble_eq_true rfl) rfl ?_
  refine g_goto (tgt := 22) d_265_144 (by decide) ?_
  exact kk

theorem k_265_147 {X : GX} {d : Nat} {h : Hp} {v1 : Int32} {v2 : Int32} {v4 : Int32} {v5 : Int32} {v6 : Int32} {v7 : Int32} {d' : Nat} {Q' : Int32 → Hp → Prop} (b0 : IA 85 (7 + v7)) (hdd : d' < d) (hC : CI d' 185 [.int v1, .int ((h 85 (Int32.toNatClampNeg (7 + v7))) / 4), .int v5, .int v7] h Q') (kk : ∀ x h', Q' x h' → G X d 265 169 [some (.ref 84), some (.int v1), some (.int v2), none, some (.int v4), none, some (.int v6), some (.int v7), none, none, none] [.int x, .int v5] h') : G X d 265 147 [some (.ref 84), some (.int v1), some (.int v2), none, some (.int v4), some (.int v5), some (.int v6), some (.int v7), none, none, none] [] h := by
  refine g_iload d_265_147 rfl ?_
  refine g_iload_n d_265_149 rfl rfl ?_
  refine g_aload_n d_265_150 rfl rfl ?_
  refine g_getf (ci := 9) (k := 0) d_265_151 wd_355 (Nat.le_of_ble_eq_true rfl) rfl rfl ?_
  refine g_bipush (v := 7) d_265_154 (by decide) ?_
  refine g_iload d_265_156 rfl ?_
  refine g_iadd d_265_158 ?_
  refine g_iald d_265_159 b0 ?_
  refine g_iconst (v := 4) d_265_160 (by decide) ?_
  refine g_idiv d_265_161 (by decide) ?_
  refine g_iload d_265_162 rfl ?_
  refine g_iload d_265_164 rfl ?_
  exact g_callSI (mj := 185) [.int v1, .int ((h 85 (Int32.toNatClampNeg (7 + v7))) / 4), .int v5, .int v7] [.int v5] d_265_166 wd_405 mo_185 mc_185 mv_185 rfl rfl (Nat.le_of_ble_eq_true rfl)  hdd hC (fun x h' q => g_mask [true, true, true, false, true, false, true, true, false, false, false] (kk x h' q))

theorem k_265_169 {X : GX} {d : Nat} {h : Hp} {v1 : Int32} {v2 : Int32} {v4 : Int32} {v6 : Int32} {v7 : Int32} {s0 : Int32} {s1 : Int32} {d' : Nat} {Q' : Int32 → Hp → Prop} (hdd : d' < d) (hC : CI d' 186 [.int (s1 + s0), .int 0, .int 99] h Q') (kk : ∀ x h', Q' x h' → G X d 265 176 [some (.ref 84), some (.int v1), some (.int v2), none, some (.int v4), none, some (.int v6), some (.int v7), none, none, none] [.int x] h') : G X d 265 169 [some (.ref 84), some (.int v1), some (.int v2), none, some (.int v4), none, some (.int v6), some (.int v7), none, none, none] [.int s0, .int s1] h := by
  refine g_iadd d_265_169 ?_
  refine g_iconst (v := 0) d_265_170 (by decide) ?_
  refine g_bipush (v := 99) d_265_171 (by decide) ?_
  exact g_callSI (mj := 186) [.int (s1 + s0), .int 0, .int 99] [] d_265_173 wd_406 mo_186 mc_186 mv_186 rfl rfl (Nat.le_of_ble_eq_true rfl)  hdd hC kk

theorem k_265_176 {X : GX} {d : Nat} {h : Hp} {v1 : Int32} {v2 : Int32} {v4 : Int32} {v6 : Int32} {v7 : Int32} {s0 : Int32} {d' : Nat} {Q' : Int32 → Hp → Prop} (hdd : d' < d) (hC : CI d' 189 [.int v1, .int v2, .int s0, .int 0] h Q') (kk : ∀ x h', Q' x h' → G X d 265 188 [some (.ref 84), some (.int v1), some (.int v2), none, some (.int v4), some (.int s0), none, some (.int v7), none, none, none] [.int x, .int v6] h') : G X d 265 176 [some (.ref 84), some (.int v1), some (.int v2), none, some (.int v4), none, some (.int v6), some (.int v7), none, none, none] [.int s0] h := by
  refine g_istore d_265_176 (Nat.le_of_ble_eq_true rfl) rfl ?_
  refine g_iload d_265_178 rfl ?_
  refine g_iload_n d_265_180 rfl rfl ?_
  refine g_iload_n d_265_181 rfl rfl ?_
  refine g_iload d_265_182 rfl ?_
  refine g_iconst (v := 0) d_265_184 (by decide) ?_
  exact g_callSI (mj := 189) [.int v1, .int v2, .int s0, .int 0] [.int v6] d_265_185 wd_409 mo_189 mc_189 mv_189 rfl rfl (Nat.le_of_ble_eq_true rfl)  hdd hC (fun x h' q => g_mask [true, true, true, false, true, true, false, true, false, false, false] (kk x h' q))

theorem k_265_188 {X : GX} {d : Nat} {h : Hp} {v1 : Int32} {v2 : Int32} {v4 : Int32} {v5 : Int32} {v7 : Int32} {s0 : Int32} {s1 : Int32} (kk : G X d 265 12 [some (.ref 84), some (.int v1), some (.int v2), none, some (.int v4), some (.int v5), some (.int (s1 + s0)), some (.int (v7 + 1)), none, none, none] [] h) : G X d 265 188 [some (.ref 84), some (.int v1), some (.int v2), none, some (.int v4), some (.int v5), none, some (.int v7), none, none, none] [.int s0, .int s1] h := by
  refine g_iadd d_265_188 ?_
  refine g_istore d_265_189 (Nat.le_of_ble_eq_true rfl) rfl ?_
  refine g_iinc (w := 1) d_265_191 rfl (by decide) (Nat.le_of_ble_eq_true rfl) rfl ?_
  refine g_goto (tgt := 12) d_265_194 (by decide) ?_
  exact kk

theorem k_265_197 {X : GX} {d : Nat} {h : Hp} {v4 : Int32} (hq : RtX X (some (.int v4)) h) : G X d 265 197 [none, none, none, none, some (.int v4), none, none, none, none, none, none] [] h := by
  refine g_iload d_265_197 rfl ?_
  exact g_reti d_265_199 rfl hq

/-! 266 PlayedTruthModel.liar()I -/
theorem k_266_0 {X : GX} {d : Nat} {h : Hp} {d' : Nat} {Q' : Hp → Prop} (hdd : d' < d) (hC : CV d' 264 [.ref 84, .int 0] h Q') (kk : ∀ h', Q' h' → G X d 266 5 [some (.ref 84), none] [] h') : G X d 266 0 [some (.ref 84), none] [] h := by
  refine g_aload_n d_266_0 rfl rfl ?_
  refine g_iconst (v := 0) d_266_1 (by decide) ?_
  exact g_callVV (mj := 264) 9 [.int 0] [] d_266_2 wd_517 mo_264 mc_264 mv_264 rfl rfl rfl (Nat.le_of_ble_eq_true rfl) rfl hdd hC kk

theorem k_266_5 {X : GX} {d : Nat} {h : Hp} (kt : (h 84 24) ≤ 0 → G X d 266 15 [some (.ref 84), none] [] h) (kf : ¬ (h 84 24) ≤ 0 → G X d 266 12 [none, none] [] h) : G X d 266 5 [some (.ref 84), none] [] h := by
  refine g_aload_n d_266_5 rfl rfl ?_
  refine g_getf (ci := 9) (k := 24) d_266_6 wd_379 (Nat.le_of_ble_eq_true rfl) rfl rfl ?_
  exact g_if_le (tgt := 15) d_266_9 (by decide) kt (fun q => g_mask [false, false] (kf q))

theorem k_266_12 {X : GX} {d : Nat} {h : Hp} (hq : RtX X (some (.int ((-3)))) h) : G X d 266 12 [none, none] [] h := by
  refine g_bipush (v := (-3)) d_266_12 (by decide) ?_
  exact g_reti d_266_14 rfl hq

theorem k_266_15 {X : GX} {d : Nat} {h : Hp} (kk : G X d 266 17 [some (.ref 84), some (.int 0)] [] h) : G X d 266 15 [some (.ref 84), none] [] h := by
  refine g_iconst (v := 0) d_266_15 (by decide) ?_
  refine g_istore_n d_266_16 rfl (Nat.le_of_ble_eq_true rfl) rfl ?_
  exact kk

theorem k_266_17 {X : GX} {d : Nat} {h : Hp} {v1 : Int32} (b0 : IA 85 6) (kt : (h 85 (Int32.toNatClampNeg 6)) ≤ v1 → G X d 266 50 [none, none] [] h) (kf : ¬ (h 85 (Int32.toNatClampNeg 6)) ≤ v1 → G X d 266 28 [some (.ref 84), some (.int v1)] [] h) : G X d 266 17 [some (.ref 84), some (.int v1)] [] h := by
  refine g_iload_n d_266_17 rfl rfl ?_
  refine g_aload_n d_266_18 rfl rfl ?_
  refine g_getf (ci := 9) (k := 0) d_266_19 wd_355 (Nat.le_of_ble_eq_true rfl) rfl rfl ?_
  refine g_bipush (v := 6) d_266_22 (by decide) ?_
  refine g_iald d_266_24 b0 ?_
  exact g_icmp_ge (tgt := 50) d_266_25 (by decide) (fun q => g_mask [false, false] (kt q)) kf

theorem k_266_28 {X : GX} {d : Nat} {h : Hp} {v1 : Int32} {d' : Nat} {Q' : Hp → Prop} (hdd : d' < d) (hC : CV d' 264 [.ref 84, .int (1 <<< (v1 &&& 31))] h Q') (kk : ∀ h', Q' h' → G X d 266 35 [some (.ref 84), some (.int v1)] [] h') : G X d 266 28 [some (.ref 84), some (.int v1)] [] h := by
  refine g_aload_n d_266_28 rfl rfl ?_
  refine g_iconst (v := 1) d_266_29 (by decide) ?_
  refine g_iload_n d_266_30 rfl rfl ?_
  refine g_ishl d_266_31 ?_
  exact g_callVV (mj := 264) 9 [.int (1 <<< (v1 &&& 31))] [] d_266_32 wd_517 mo_264 mc_264 mv_264 rfl rfl rfl (Nat.le_of_ble_eq_true rfl) rfl hdd hC kk

theorem k_266_35 {X : GX} {d : Nat} {h : Hp} {v1 : Int32} (kt : (h 84 24) ≤ 0 → G X d 266 44 [some (.ref 84), some (.int v1)] [] h) (kf : ¬ (h 84 24) ≤ 0 → G X d 266 42 [none, some (.int v1)] [] h) : G X d 266 35 [some (.ref 84), some (.int v1)] [] h := by
  refine g_aload_n d_266_35 rfl rfl ?_
  refine g_getf (ci := 9) (k := 24) d_266_36 wd_379 (Nat.le_of_ble_eq_true rfl) rfl rfl ?_
  exact g_if_le (tgt := 44) d_266_39 (by decide) kt (fun q => g_mask [false, true] (kf q))

theorem k_266_42 {X : GX} {d : Nat} {h : Hp} {v1 : Int32} (hq : RtX X (some (.int v1)) h) : G X d 266 42 [none, some (.int v1)] [] h := by
  refine g_iload_n d_266_42 rfl rfl ?_
  exact g_reti d_266_43 rfl hq

theorem k_266_44 {X : GX} {d : Nat} {h : Hp} {v1 : Int32} (kk : G X d 266 17 [some (.ref 84), some (.int (v1 + 1))] [] h) : G X d 266 44 [some (.ref 84), some (.int v1)] [] h := by
  refine g_iinc (w := 1) d_266_44 rfl (by decide) (Nat.le_of_ble_eq_true rfl) rfl ?_
  refine g_goto (tgt := 17) d_266_47 (by decide) ?_
  exact kk

theorem k_266_50 {X : GX} {d : Nat} {h : Hp} (hq : RtX X (some (.int ((-3)))) h) : G X d 266 50 [none, none] [] h := by
  refine g_bipush (v := (-3)) d_266_50 (by decide) ?_
  exact g_reti d_266_52 rfl hq

/-! 267 PlayedTruthModel.seed(I)I -/
theorem k_267_0 {X : GX} {d : Nat} {h : Hp} {v1 : Int32} {d' : Nat} {Q' : Int32 → Hp → Prop} (hdd : d' < d) (hC : CI d' 197 [.ref 84, .int 4, .int v1] h Q') (kk : ∀ x h', Q' x h' → G X d 267 6 [none, none] [.int x] h') : G X d 267 0 [some (.ref 84), some (.int v1)] [] h := by
  refine g_aload_n d_267_0 rfl rfl ?_
  refine g_iconst (v := 4) d_267_1 (by decide) ?_
  refine g_iload_n d_267_2 rfl rfl ?_
  exact g_callVI (mj := 197) 9 [.int 4, .int v1] [] d_267_3 wd_417 mo_197 mc_197 mv_197 rfl rfl rfl (Nat.le_of_ble_eq_true rfl) rfl hdd hC (fun x h' q => g_mask [false, false] (kk x h' q))

theorem k_267_6 {X : GX} {d : Nat} {h : Hp} {s0 : Int32} (hq : RtX X (some (.int s0)) h) : G X d 267 6 [none, none] [.int s0] h := by
  exact g_reti d_267_6 rfl hq

/-! 268 PlayedTruthModel.lot()I -/
theorem k_268_0 {X : GX} {d : Nat} {h : Hp} {d' : Nat} {Q' : Int32 → Hp → Prop} (hdd : d' < d) (hC : CI d' 205 [.ref 84] h Q') (kk : ∀ x h', Q' x h' → G X d 268 4 [some (.ref 84)] [.int x] h') : G X d 268 0 [some (.ref 84)] [] h := by
  refine g_aload_n d_268_0 rfl rfl ?_
  exact g_callVI (mj := 205) 9 [] [] d_268_1 wd_427 mo_205 mc_205 mv_205 rfl rfl rfl (Nat.le_of_ble_eq_true rfl) rfl hdd hC kk

theorem k_268_4 {X : GX} {d : Nat} {h : Hp} {s0 : Int32} (kt : s0 = 0 → G X d 268 12 [some (.ref 84)] [] h) (kf : ¬ s0 = 0 → G X d 268 7 [none] [] h) : G X d 268 4 [some (.ref 84)] [.int s0] h := by
  exact g_if_eq (tgt := 12) d_268_4 (by decide) kt (fun q => g_mask [false] (kf q))

theorem k_268_7 {X : GX} {d : Nat} {h : Hp} (hq : RtX X (some (.int ((-4)))) h) : G X d 268 7 [none] [] h := by
  refine g_bipush (v := (-4)) d_268_7 (by decide) ?_
  refine g_goto (tgt := 16) d_268_9 (by decide) ?_
  exact g_reti d_268_16 rfl hq

theorem k_268_12 {X : GX} {d : Nat} {h : Hp} {d' : Nat} {Q' : Int32 → Hp → Prop} (hdd : d' < d) (hC : CI d' 269 [.ref 84] h Q') (kk : ∀ x h', Q' x h' → G X d 268 16 [none] [.int x] h') : G X d 268 12 [some (.ref 84)] [] h := by
  refine g_aload_n d_268_12 rfl rfl ?_
  exact g_callVI (mj := 269) 9 [] [] d_268_13 wd_522 mo_269 mc_269 mv_269 rfl rfl rfl (Nat.le_of_ble_eq_true rfl) rfl hdd hC (fun x h' q => g_mask [false] (kk x h' q))

theorem k_268_16 {X : GX} {d : Nat} {h : Hp} {s0 : Int32} (hq : RtX X (some (.int s0)) h) : G X d 268 16 [none] [.int s0] h := by
  exact g_reti d_268_16 rfl hq

/-! 269 PlayedTruthModel.lotGoes()I -/
theorem k_269_0 {X : GX} {d : Nat} {h : Hp} {d' : Nat} {Q' : Int32 → Hp → Prop} (b0 : IA 85 4) (b1 : IA 85 0) (n2 : ¬ (((wr h 85 (Int32.toNatClampNeg 4) (((h 85 (Int32.toNatClampNeg 4)) * 1103515245) + 12345)) 85 (Int32.toNatClampNeg 0)) + 1) = 0) (hdd : d' < d) (hC : CI d' 226 [.ref 84, .int (((((wr h 85 (Int32.toNatClampNeg 4) (((h 85 (Int32.toNatClampNeg 4)) * 1103515245) + 12345)) 85 (Int32.toNatClampNeg 4)).toUInt32 >>> ((16 : Int32).toUInt32 &&& Int32.toUInt32 31)).toInt32) - ((((wr h 85 (Int32.toNatClampNeg 4) (((h 85 (Int32.toNatClampNeg 4)) * 1103515245) + 12345)) 85 (Int32.toNatClampNeg 4)).toUInt32 >>> ((16 : Int32).toUInt32 &&& Int32.toUInt32 31)).toInt32) / (((wr h 85 (Int32.toNatClampNeg 4) (((h 85 (Int32.toNatClampNeg 4)) * 1103515245) + 12345)) 85 (Int32.toNatClampNeg 0)) + 1) * (((wr h 85 (Int32.toNatClampNeg 4) (((h 85 (Int32.toNatClampNeg 4)) * 1103515245) + 12345)) 85 (Int32.toNatClampNeg 0)) + 1))] (wr h 85 (Int32.toNatClampNeg 4) (((h 85 (Int32.toNatClampNeg 4)) * 1103515245) + 12345)) Q') (kk : ∀ x h', Q' x h' → G X d 269 42 [none] [.int x] h') : G X d 269 0 [some (.ref 84)] [] h := by
  refine g_aload_n d_269_0 rfl rfl ?_
  refine g_getf (ci := 9) (k := 0) d_269_1 wd_355 (Nat.le_of_ble_eq_true rfl) rfl rfl ?_
  refine g_iconst (v := 4) d_269_4 (by decide) ?_
  refine g_aload_n d_269_5 rfl rfl ?_
  refine g_getf (ci := 9) (k := 0) d_269_6 wd_355 (Nat.le_of_ble_eq_true rfl) rfl rfl ?_
  refine g_iconst (v := 4) d_269_9 (by decide) ?_
  refine g_iald d_269_10 b0 ?_
  refine g_ldc_w (v := 1103515245) d_269_11 wd_523 ?_
  refine g_imul d_269_14 ?_
  refine g_sipush (v := 12345) d_269_15 (by decide) ?_
  refine g_iadd d_269_18 ?_
  refine g_iast d_269_19 b0 ?_
  refine g_aload_n d_269_20 rfl rfl ?_
  refine g_aload_n d_269_21 rfl rfl ?_
  refine g_getf (ci := 9) (k := 0) d_269_22 wd_355 (Nat.le_of_ble_eq_true rfl) rfl rfl ?_
  refine g_iconst (v := 4) d_269_25 (by decide) ?_
  refine g_iald d_269_26 b0 ?_
  refine g_bipush (v := 16) d_269_27 (by decide) ?_
  refine g_iushr d_269_29 ?_
  refine g_aload_n d_269_30 rfl rfl ?_
  refine g_getf (ci := 9) (k := 0) d_269_31 wd_355 (Nat.le_of_ble_eq_true rfl) rfl rfl ?_
  refine g_iconst (v := 0) d_269_34 (by decide) ?_
  refine g_iald d_269_35 b1 ?_
  refine g_iconst (v := 1) d_269_36 (by decide) ?_
  refine g_iadd d_269_37 ?_
  refine g_irem d_269_38 n2 ?_
  exact g_callVI (mj := 226) 9 [.int (((((wr h 85 (Int32.toNatClampNeg 4) (((h 85 (Int32.toNatClampNeg 4)) * 1103515245) + 12345)) 85 (Int32.toNatClampNeg 4)).toUInt32 >>> ((16 : Int32).toUInt32 &&& Int32.toUInt32 31)).toInt32) - ((((wr h 85 (Int32.toNatClampNeg 4) (((h 85 (Int32.toNatClampNeg 4)) * 1103515245) + 12345)) 85 (Int32.toNatClampNeg 4)).toUInt32 >>> ((16 : Int32).toUInt32 &&& Int32.toUInt32 31)).toInt32) / (((wr h 85 (Int32.toNatClampNeg 4) (((h 85 (Int32.toNatClampNeg 4)) * 1103515245) + 12345)) 85 (Int32.toNatClampNeg 0)) + 1) * (((wr h 85 (Int32.toNatClampNeg 4) (((h 85 (Int32.toNatClampNeg 4)) * 1103515245) + 12345)) 85 (Int32.toNatClampNeg 0)) + 1))] [] d_269_39 wd_474 mo_226 mc_226 mv_226 rfl rfl rfl (Nat.le_of_ble_eq_true rfl) rfl hdd hC (fun x h' q => g_mask [false] (kk x h' q))

theorem k_269_42 {X : GX} {d : Nat} {h : Hp} {s0 : Int32} (hq : RtX X (some (.int s0)) h) : G X d 269 42 [none] [.int s0] h := by
  exact g_reti d_269_42 rfl hq

/-! 270 PlayedTruthModel.times(II)I -/
theorem k_270_0 {X : GX} {d : Nat} {h : Hp} {v1 : Int32} {v2 : Int32} {d' : Nat} {Q' : Int32 → Hp → Prop} (hdd : d' < d) (hC : CI d' 177 [.long (Int32.toInt64 v1), .long 1, .long 40] h Q') (kk : ∀ x h', Q' x h' → G X d 270 9 [some (.ref 84), some (.int v1), some (.int v2), none, none, none, none] [.int x] h') : G X d 270 0 [some (.ref 84), some (.int v1), some (.int v2), none, none, none, none] [] h := by
  refine g_iload_n d_270_0 rfl rfl ?_
  refine g_i2l d_270_1 ?_
  refine g_lconst (v := 1) d_270_2 (by decide) ?_
  refine g_ldc2_w (v := 40) d_270_3 wd_525 ?_
  exact g_callSI (mj := 177) [.long (Int32.toInt64 v1), .long 1, .long 40] [] d_270_6 wd_395 mo_177 mc_177 mv_177 rfl rfl (Nat.le_of_ble_eq_true rfl)  hdd hC kk

theorem k_270_9 {X : GX} {d : Nat} {h : Hp} {v1 : Int32} {v2 : Int32} {s0 : Int32} (kt : s0 = 0 → G X d 270 24 [none, none, none, none, none, none, none] [] h) (kf : ¬ s0 = 0 → G X d 270 12 [some (.ref 84), some (.int v1), some (.int v2), none, none, none, none] [] h) : G X d 270 9 [some (.ref 84), some (.int v1), some (.int v2), none, none, none, none] [.int s0] h := by
  exact g_if_eq (tgt := 24) d_270_9 (by decide) (fun q => g_mask [false, false, false, false, false, false, false] (kt q)) kf

theorem k_270_12 {X : GX} {d : Nat} {h : Hp} {v1 : Int32} {v2 : Int32} {d' : Nat} {Q' : Int32 → Hp → Prop} (hdd : d' < d) (hC : CI d' 177 [.long (Int32.toInt64 v2), .long 0, .long 999] h Q') (kk : ∀ x h', Q' x h' → G X d 270 21 [some (.ref 84), some (.int v1), some (.int v2), none, none, none, none] [.int x] h') : G X d 270 12 [some (.ref 84), some (.int v1), some (.int v2), none, none, none, none] [] h := by
  refine g_iload_n d_270_12 rfl rfl ?_
  refine g_i2l d_270_13 ?_
  refine g_lconst (v := 0) d_270_14 (by decide) ?_
  refine g_ldc2_w (v := 999) d_270_15 wd_494 ?_
  exact g_callSI (mj := 177) [.long (Int32.toInt64 v2), .long 0, .long 999] [] d_270_18 wd_395 mo_177 mc_177 mv_177 rfl rfl (Nat.le_of_ble_eq_true rfl)  hdd hC kk

theorem k_270_21 {X : GX} {d : Nat} {h : Hp} {v1 : Int32} {v2 : Int32} {s0 : Int32} (kt : ¬ s0 = 0 → G X d 270 26 [some (.ref 84), some (.int v1), some (.int v2), none, none, none, none] [] h) (kf : s0 = 0 → G X d 270 24 [none, none, none, none, none, none, none] [] h) : G X d 270 21 [some (.ref 84), some (.int v1), some (.int v2), none, none, none, none] [.int s0] h := by
  exact g_if_ne (tgt := 26) d_270_21 (by decide) kt (fun q => g_mask [false, false, false, false, false, false, false] (kf q))

theorem k_270_24 {X : GX} {d : Nat} {h : Hp} (hq : RtX X (some (.int ((-1)))) h) : G X d 270 24 [none, none, none, none, none, none, none] [] h := by
  refine g_iconst (v := (-1)) d_270_24 (by decide) ?_
  exact g_reti d_270_25 rfl hq

theorem k_270_26 {X : GX} {d : Nat} {h : Hp} {v1 : Int32} {v2 : Int32} {d' : Nat} {Q' : Hp → Prop} (hdd : d' < d) (hC : CV d' 229 [.ref 84] h Q') (kk : ∀ h', Q' h' → G X d 270 30 [some (.ref 84), some (.int v1), some (.int v2), none, none, none, none] [] h') : G X d 270 26 [some (.ref 84), some (.int v1), some (.int v2), none, none, none, none] [] h := by
  refine g_aload_n d_270_26 rfl rfl ?_
  exact g_callVV (mj := 229) 9 [] [] d_270_27 wd_477 mo_229 mc_229 mv_229 rfl rfl rfl (Nat.le_of_ble_eq_true rfl) rfl hdd hC kk

theorem k_270_30 {X : GX} {d : Nat} {h : Hp} {v1 : Int32} {v2 : Int32} (kk : G X d 270 35 [some (.ref 84), some (.int v1), some (.int v2), some (.int 0), some (.int 0), none, none] [] h) : G X d 270 30 [some (.ref 84), some (.int v1), some (.int v2), none, none, none, none] [] h := by
  refine g_iconst (v := 0) d_270_30 (by decide) ?_
  refine g_istore_n d_270_31 rfl (Nat.le_of_ble_eq_true rfl) rfl ?_
  refine g_iconst (v := 0) d_270_32 (by decide) ?_
  refine g_istore d_270_33 (Nat.le_of_ble_eq_true rfl) rfl ?_
  exact kk

theorem k_270_35 {X : GX} {d : Nat} {h : Hp} {v1 : Int32} {v2 : Int32} {v3 : Int32} {v4 : Int32} (kt : v1 ≤ v4 → G X d 270 103 [some (.ref 84), none, none, some (.int v3), none, none, none] [] h) (kf : ¬ v1 ≤ v4 → G X d 270 41 [some (.ref 84), some (.int v1), some (.int v2), some (.int v3), some (.int v4), none, none] [] h) : G X d 270 35 [some (.ref 84), some (.int v1), some (.int v2), some (.int v3), some (.int v4), none, none] [] h := by
  refine g_iload d_270_35 rfl ?_
  refine g_iload_n d_270_37 rfl rfl ?_
  exact g_icmp_ge (tgt := 103) d_270_38 (by decide) (fun q => g_mask [true, false, false, true, false, false, false] (kt q)) kf

theorem k_270_41 {X : GX} {d : Nat} {h : Hp} {v1 : Int32} {v2 : Int32} {v3 : Int32} {v4 : Int32} (kk : G X d 270 44 [some (.ref 84), some (.int v1), some (.int v2), some (.int v3), some (.int v4), some (.int 0), none] [] h) : G X d 270 41 [some (.ref 84), some (.int v1), some (.int v2), some (.int v3), some (.int v4), none, none] [] h := by
  refine g_iconst (v := 0) d_270_41 (by decide) ?_
  refine g_istore d_270_42 (Nat.le_of_ble_eq_true rfl) rfl ?_
  exact kk

theorem k_270_44 {X : GX} {d : Nat} {h : Hp} {v1 : Int32} {v2 : Int32} {v3 : Int32} {v4 : Int32} {v5 : Int32} {d' : Nat} {Q' : Int32 → Hp → Prop} (hdd : d' < d) (hC : CI d' 205 [.ref 84] h Q') (kk : ∀ x h', Q' x h' → G X d 270 48 [some (.ref 84), some (.int v1), some (.int v2), some (.int v3), some (.int v4), some (.int v5), none] [.int x] h') : G X d 270 44 [some (.ref 84), some (.int v1), some (.int v2), some (.int v3), some (.int v4), some (.int v5), none] [] h := by
  refine g_aload_n d_270_44 rfl rfl ?_
  exact g_callVI (mj := 205) 9 [] [] d_270_45 wd_427 mo_205 mc_205 mv_205 rfl rfl rfl (Nat.le_of_ble_eq_true rfl) rfl hdd hC kk

theorem k_270_48 {X : GX} {d : Nat} {h : Hp} {v1 : Int32} {v2 : Int32} {v3 : Int32} {v4 : Int32} {v5 : Int32} {s0 : Int32} (kt : ¬ s0 = 0 → G X d 270 63 [some (.ref 84), some (.int v1), some (.int v2), some (.int v3), some (.int v4), some (.int v5), none] [] h) (kf : s0 = 0 → G X d 270 51 [some (.ref 84), some (.int v1), some (.int v2), some (.int v3), some (.int v4), some (.int v5), none] [] h) : G X d 270 48 [some (.ref 84), some (.int v1), some (.int v2), some (.int v3), some (.int v4), some (.int v5), none] [.int s0] h := by
  exact g_if_ne (tgt := 63) d_270_48 (by decide) kt kf

theorem k_270_51 {X : GX} {d : Nat} {h : Hp} {v1 : Int32} {v2 : Int32} {v3 : Int32} {v4 : Int32} {v5 : Int32} {d' : Nat} {Q' : Int32 → Hp → Prop} (hdd : d' < d) (hC : CI d' 269 [.ref 84] h Q') (kk : ∀ x h', Q' x h' → G X d 270 57 [some (.ref 84), some (.int v1), some (.int v2), some (.int v3), some (.int v4), none, none] [.int x, .int v5] h') : G X d 270 51 [some (.ref 84), some (.int v1), some (.int v2), some (.int v3), some (.int v4), some (.int v5), none] [] h := by
  refine g_iload d_270_51 rfl ?_
  refine g_aload_n d_270_53 rfl rfl ?_
  exact g_callVI (mj := 269) 9 [] [.int v5] d_270_54 wd_522 mo_269 mc_269 mv_269 rfl rfl rfl (Nat.le_of_ble_eq_true rfl) rfl hdd hC (fun x h' q => g_mask [true, true, true, true, true, false, false] (kk x h' q))

theorem k_270_57 {X : GX} {d : Nat} {h : Hp} {v1 : Int32} {v2 : Int32} {v3 : Int32} {v4 : Int32} {s0 : Int32} {s1 : Int32} (kk : G X d 270 44 [some (.ref 84), some (.int v1), some (.int v2), some (.int v3), some (.int v4), some (.int (s1 + s0)), none] [] h) : G X d 270 57 [some (.ref 84), some (.int v1), some (.int v2), some (.int v3), some (.int v4), none, none] [.int s0, .int s1] h := by
  refine g_iadd d_270_57 ?_
  refine g_istore d_270_58 (Nat.le_of_ble_eq_true rfl) rfl ?_
  refine g_goto (tgt := 44) d_270_60 (by decide) ?_
  exact kk

theorem k_270_63 {X : GX} {d : Nat} {h : Hp} {v1 : Int32} {v2 : Int32} {v3 : Int32} {v4 : Int32} {v5 : Int32} (kt : v5 < v2 → G X d 270 74 [some (.ref 84), some (.int v1), some (.int v2), none, some (.int v4), none, none] [.int v3] h) (kf : ¬ v5 < v2 → G X d 270 70 [some (.ref 84), some (.int v1), some (.int v2), none, some (.int v4), none, none] [.int v3] h) : G X d 270 63 [some (.ref 84), some (.int v1), some (.int v2), some (.int v3), some (.int v4), some (.int v5), none] [] h := by
  refine g_iload_n d_270_63 rfl rfl ?_
  refine g_iload d_270_64 rfl ?_
  refine g_iload_n d_270_66 rfl rfl ?_
  exact g_icmp_lt (tgt := 74) d_270_67 (by decide) (fun q => g_mask [true, true, true, false, true, false, false] (kt q)) (fun q => g_mask [true, true, true, false, true, false, false] (kf q))

theorem k_270_70 {X : GX} {d : Nat} {h : Hp} {v1 : Int32} {v2 : Int32} {v4 : Int32} {s0 : Int32} {d' : Nat} {Q' : Hp → Prop} (b0 : IA 85 4) (hdd : d' < d) (hC : CV d' 232 [.ref 84] h Q') (kk : ∀ h', Q' h' → G X d 270 89 [some (.ref 84), some (.int v1), some (.int v2), some (.int (s0 + 1)), some (.int v4), none, some (.int (h 85 (Int32.toNatClampNeg 4)))] [] h') : G X d 270 70 [some (.ref 84), some (.int v1), some (.int v2), none, some (.int v4), none, none] [.int s0] h := by
  refine g_iconst (v := 1) d_270_70 (by decide) ?_
  refine g_goto (tgt := 75) d_270_71 (by decide) ?_
  refine g_iadd d_270_75 ?_
  refine g_istore_n d_270_76 rfl (Nat.le_of_ble_eq_true rfl) rfl ?_
  refine g_aload_n d_270_77 rfl rfl ?_
  refine g_getf (ci := 9) (k := 0) d_270_78 wd_355 (Nat.le_of_ble_eq_true rfl) rfl rfl ?_
  refine g_iconst (v := 4) d_270_81 (by decide) ?_
  refine g_iald d_270_82 b0 ?_
  refine g_istore d_270_83 (Nat.le_of_ble_eq_true rfl) rfl ?_
  refine g_aload_n d_270_85 rfl rfl ?_
  exact g_callVV (mj := 232) 9 [] [] d_270_86 wd_480 mo_232 mc_232 mv_232 rfl rfl rfl (Nat.le_of_ble_eq_true rfl) rfl hdd hC kk

theorem k_270_74 {X : GX} {d : Nat} {h : Hp} {v1 : Int32} {v2 : Int32} {v4 : Int32} {s0 : Int32} {d' : Nat} {Q' : Hp → Prop} (b0 : IA 85 4) (hdd : d' < d) (hC : CV d' 232 [.ref 84] h Q') (kk : ∀ h', Q' h' → G X d 270 89 [some (.ref 84), some (.int v1), some (.int v2), some (.int (s0 + 0)), some (.int v4), none, some (.int (h 85 (Int32.toNatClampNeg 4)))] [] h') : G X d 270 74 [some (.ref 84), some (.int v1), some (.int v2), none, some (.int v4), none, none] [.int s0] h := by
  refine g_iconst (v := 0) d_270_74 (by decide) ?_
  refine g_iadd d_270_75 ?_
  refine g_istore_n d_270_76 rfl (Nat.le_of_ble_eq_true rfl) rfl ?_
  refine g_aload_n d_270_77 rfl rfl ?_
  refine g_getf (ci := 9) (k := 0) d_270_78 wd_355 (Nat.le_of_ble_eq_true rfl) rfl rfl ?_
  refine g_iconst (v := 4) d_270_81 (by decide) ?_
  refine g_iald d_270_82 b0 ?_
  refine g_istore d_270_83 (Nat.le_of_ble_eq_true rfl) rfl ?_
  refine g_aload_n d_270_85 rfl rfl ?_
  exact g_callVV (mj := 232) 9 [] [] d_270_86 wd_480 mo_232 mc_232 mv_232 rfl rfl rfl (Nat.le_of_ble_eq_true rfl) rfl hdd hC kk

theorem k_270_89 {X : GX} {d : Nat} {h : Hp} {v1 : Int32} {v2 : Int32} {v3 : Int32} {v4 : Int32} {v6 : Int32} (b0 : IA 85 4) (kk : G X d 270 35 [some (.ref 84), some (.int v1), some (.int v2), some (.int v3), some (.int (v4 + 1)), none, none] [] (wr h 85 (Int32.toNatClampNeg 4) v6)) : G X d 270 89 [some (.ref 84), some (.int v1), some (.int v2), some (.int v3), some (.int v4), none, some (.int v6)] [] h := by
  refine g_aload_n d_270_89 rfl rfl ?_
  refine g_getf (ci := 9) (k := 0) d_270_90 wd_355 (Nat.le_of_ble_eq_true rfl) rfl rfl ?_
  refine g_iconst (v := 4) d_270_93 (by decide) ?_
  refine g_iload d_270_94 rfl ?_
  refine g_iast d_270_96 b0 ?_
  refine g_iinc (w := 1) d_270_97 rfl (by decide) (Nat.le_of_ble_eq_true rfl) rfl ?_
  refine g_goto (tgt := 35) d_270_100 (by decide) ?_
  exact g_mask [true, true, true, true, true, false, false] kk

theorem k_270_103 {X : GX} {d : Nat} {h : Hp} {v3 : Int32} {d' : Nat} {Q' : Hp → Prop} (hdd : d' < d) (hC : CV d' 231 [.ref 84] h Q') (kk : ∀ h', Q' h' → G X d 270 107 [none, none, none, some (.int v3), none, none, none] [] h') : G X d 270 103 [some (.ref 84), none, none, some (.int v3), none, none, none] [] h := by
  refine g_aload_n d_270_103 rfl rfl ?_
  exact g_callVV (mj := 231) 9 [] [] d_270_104 wd_479 mo_231 mc_231 mv_231 rfl rfl rfl (Nat.le_of_ble_eq_true rfl) rfl hdd hC (fun h' q => g_mask [false, false, false, true, false, false, false] (kk h' q))

theorem k_270_107 {X : GX} {d : Nat} {h : Hp} {v3 : Int32} (hq : RtX X (some (.int v3)) h) : G X d 270 107 [none, none, none, some (.int v3), none, none, none] [] h := by
  refine g_iload_n d_270_107 rfl rfl ?_
  exact g_reti d_270_108 rfl hq

/-! 271 PlayedTruthModel.prove(I)I -/
theorem k_271_0 {X : GX} {d : Nat} {h : Hp} {v1 : Int32} {d' : Nat} {Q' : Int32 → Hp → Prop} (hdd : d' < d) (hC : CI d' 247 [.int v1] h Q') (kk : ∀ x h', Q' x h' → G X d 271 4 [some (.ref 84), some (.int v1), none] [.int x] h') : G X d 271 0 [some (.ref 84), some (.int v1), none] [] h := by
  refine g_iload_n d_271_0 rfl rfl ?_
  exact g_callSI (mj := 247) [.int v1] [] d_271_1 wd_497 mo_247 mc_247 mv_247 rfl rfl (Nat.le_of_ble_eq_true rfl)  hdd hC kk

theorem k_271_4 {X : GX} {d : Nat} {h : Hp} {v1 : Int32} {s0 : Int32} (kt : ¬ s0 = 0 → G X d 271 9 [some (.ref 84), some (.int v1), none] [] h) (kf : s0 = 0 → G X d 271 7 [none, none, none] [] h) : G X d 271 4 [some (.ref 84), some (.int v1), none] [.int s0] h := by
  exact g_if_ne (tgt := 9) d_271_4 (by decide) kt (fun q => g_mask [false, false, false] (kf q))

theorem k_271_7 {X : GX} {d : Nat} {h : Hp} (hq : RtX X (some (.int ((-1)))) h) : G X d 271 7 [none, none, none] [] h := by
  refine g_iconst (v := (-1)) d_271_7 (by decide) ?_
  exact g_reti d_271_8 rfl hq

theorem k_271_9 {X : GX} {d : Nat} {h : Hp} {v1 : Int32} {d' : Nat} {Q' : Hp → Prop} (hdd : d' < d) (hC : CV d' 248 [.ref 84, .int v1] h Q') (kk : ∀ h', Q' h' → G X d 271 14 [some (.ref 84), some (.int v1), none] [] h') : G X d 271 9 [some (.ref 84), some (.int v1), none] [] h := by
  refine g_aload_n d_271_9 rfl rfl ?_
  refine g_iload_n d_271_10 rfl rfl ?_
  exact g_callVV (mj := 248) 9 [.int v1] [] d_271_11 wd_499 mo_248 mc_248 mv_248 rfl rfl rfl (Nat.le_of_ble_eq_true rfl) rfl hdd hC kk

theorem k_271_14 {X : GX} {d : Nat} {h : Hp} {v1 : Int32} {d' : Nat} {Q' : Int32 → Hp → Prop} (hdd : d' < d) (hC : CI d' 249 [.ref 84, .int v1] h Q') (kk : ∀ x h', Q' x h' → G X d 271 20 [some (.ref 84), none, none] [.int x, .ref 84] h') : G X d 271 14 [some (.ref 84), some (.int v1), none] [] h := by
  refine g_aload_n d_271_14 rfl rfl ?_
  refine g_aload_n d_271_15 rfl rfl ?_
  refine g_iload_n d_271_16 rfl rfl ?_
  exact g_callVI (mj := 249) 9 [.int v1] [.ref 84] d_271_17 wd_500 mo_249 mc_249 mv_249 rfl rfl rfl (Nat.le_of_ble_eq_true rfl) rfl hdd hC (fun x h' q => g_mask [true, false, false] (kk x h' q))

theorem k_271_20 {X : GX} {d : Nat} {h : Hp} {s0 : Int32} {s1 : Nat} {d' : Nat} {Q' : Hp → Prop} (o0 : sh s1 = (1, 9)) (hdd : d' < d) (hC : CV d' 251 [.ref 84, .int ((wr h s1 27 s0) 84 20), .int ((wr h s1 27 s0) 84 27)] (wr h s1 27 s0) Q') (kk : ∀ h', Q' h' → G X d 271 35 [some (.ref 84), none, none] [] h') : G X d 271 20 [some (.ref 84), none, none] [.int s0, .ref s1] h := by
  refine g_putf (ci := 9) (k := 27) d_271_20 wd_382 (Nat.le_of_ble_eq_true rfl) (Nat.le_of_ble_eq_true rfl) rfl rfl (Or.inl ⟨rfl, rfl⟩) o0 ?_
  refine g_aload_n d_271_23 rfl rfl ?_
  refine g_aload_n d_271_24 rfl rfl ?_
  refine g_getf (ci := 9) (k := 20) d_271_25 wd_375 (Nat.le_of_ble_eq_true rfl) rfl rfl ?_
  refine g_aload_n d_271_28 rfl rfl ?_
  refine g_getf (ci := 9) (k := 27) d_271_29 wd_382 (Nat.le_of_ble_eq_true rfl) rfl rfl ?_
  exact g_callVV (mj := 251) 9 [.int ((wr h s1 27 s0) 84 20), .int ((wr h s1 27 s0) 84 27)] [] d_271_32 wd_502 mo_251 mc_251 mv_251 rfl rfl rfl (Nat.le_of_ble_eq_true rfl) rfl hdd hC kk

theorem k_271_35 {X : GX} {d : Nat} {h : Hp} {d' : Nat} {Q' : Hp → Prop} (hdd : d' < d) (hC : CV d' 229 [.ref 84] h Q') (kk : ∀ h', Q' h' → G X d 271 39 [some (.ref 84), none, none] [] h') : G X d 271 35 [some (.ref 84), none, none] [] h := by
  refine g_aload_n d_271_35 rfl rfl ?_
  exact g_callVV (mj := 229) 9 [] [] d_271_36 wd_477 mo_229 mc_229 mv_229 rfl rfl rfl (Nat.le_of_ble_eq_true rfl) rfl hdd hC kk

theorem k_271_39 {X : GX} {d : Nat} {h : Hp} (kk : G X d 271 41 [some (.ref 84), none, some (.int 0)] [] h) : G X d 271 39 [some (.ref 84), none, none] [] h := by
  refine g_iconst (v := 0) d_271_39 (by decide) ?_
  refine g_istore_n d_271_40 rfl (Nat.le_of_ble_eq_true rfl) rfl ?_
  exact kk

theorem k_271_41 {X : GX} {d : Nat} {h : Hp} {v2 : Int32} (kt : (h 84 27) ≤ v2 → G X d 271 103 [some (.ref 84), none, none] [] h) (kf : ¬ (h 84 27) ≤ v2 → G X d 271 49 [some (.ref 84), none, some (.int v2)] [] h) : G X d 271 41 [some (.ref 84), none, some (.int v2)] [] h := by
  refine g_iload_n d_271_41 rfl rfl ?_
  refine g_aload_n d_271_42 rfl rfl ?_
  refine g_getf (ci := 9) (k := 27) d_271_43 wd_382 (Nat.le_of_ble_eq_true rfl) rfl rfl ?_
  exact g_icmp_ge (tgt := 103) d_271_46 (by decide) (fun q => g_mask [true, false, false] (kt q)) kf

theorem k_271_49 {X : GX} {d : Nat} {h : Hp} {v2 : Int32} {d' : Nat} {Q' : Int32 → Hp → Prop} (b0 : IA 92 v2) (b1 : IA 93 (3 * v2)) (hdd : d' < d) (hC : CI d' 226 [.ref 84, .int ((wr h 93 (Int32.toNatClampNeg (3 * v2)) (h 92 (Int32.toNatClampNeg v2))) 92 (Int32.toNatClampNeg v2))] (wr h 93 (Int32.toNatClampNeg (3 * v2)) (h 92 (Int32.toNatClampNeg v2))) Q') (kk : ∀ x h', Q' x h' → G X d 271 82 [some (.ref 84), none, some (.int v2)] [.int x, .int ((3 * v2) + 1), .ref 93] h') : G X d 271 49 [some (.ref 84), none, some (.int v2)] [] h := by
  refine g_aload_n d_271_49 rfl rfl ?_
  refine g_getf (ci := 9) (k := 26) d_271_50 wd_381 (Nat.le_of_ble_eq_true rfl) rfl rfl ?_
  refine g_iconst (v := 3) d_271_53 (by decide) ?_
  refine g_iload_n d_271_54 rfl rfl ?_
  refine g_imul d_271_55 ?_
  refine g_aload_n d_271_56 rfl rfl ?_
  refine g_getf (ci := 9) (k := 18) d_271_57 wd_373 (Nat.le_of_ble_eq_true rfl) rfl rfl ?_
  refine g_iload_n d_271_60 rfl rfl ?_
  refine g_iald d_271_61 b0 ?_
  refine g_iast d_271_62 b1 ?_
  refine g_aload_n d_271_63 rfl rfl ?_
  refine g_getf (ci := 9) (k := 26) d_271_64 wd_381 (Nat.le_of_ble_eq_true rfl) rfl rfl ?_
  refine g_iconst (v := 3) d_271_67 (by decide) ?_
  refine g_iload_n d_271_68 rfl rfl ?_
  refine g_imul d_271_69 ?_
  refine g_iconst (v := 1) d_271_70 (by decide) ?_
  refine g_iadd d_271_71 ?_
  refine g_aload_n d_271_72 rfl rfl ?_
  refine g_aload_n d_271_73 rfl rfl ?_
  refine g_getf (ci := 9) (k := 18) d_271_74 wd_373 (Nat.le_of_ble_eq_true rfl) rfl rfl ?_
  refine g_iload_n d_271_77 rfl rfl ?_
  refine g_iald d_271_78 b0 ?_
  exact g_callVI (mj := 226) 9 [.int ((wr h 93 (Int32.toNatClampNeg (3 * v2)) (h 92 (Int32.toNatClampNeg v2))) 92 (Int32.toNatClampNeg v2))] [.int ((3 * v2) + 1), .ref 93] d_271_79 wd_474 mo_226 mc_226 mv_226 rfl rfl rfl (Nat.le_of_ble_eq_true rfl) rfl hdd hC kk

theorem k_271_82 {X : GX} {d : Nat} {h : Hp} {v2 : Int32} {s0 : Int32} {s1 : Int32} {s2 : Nat} {d' : Nat} {Q' : Int32 → Hp → Prop} (b0 : IA s2 s1) (hdd : d' < d) (hC : CI d' 206 [.ref 84] (wr h s2 (Int32.toNatClampNeg s1) s0) Q') (kk : ∀ x h', Q' x h' → G X d 271 96 [some (.ref 84), none, some (.int v2)] [.int x, .int ((3 * v2) + 2), .ref 93] h') : G X d 271 82 [some (.ref 84), none, some (.int v2)] [.int s0, .int s1, .ref s2] h := by
  refine g_iast d_271_82 b0 ?_
  refine g_aload_n d_271_83 rfl rfl ?_
  refine g_getf (ci := 9) (k := 26) d_271_84 wd_381 (Nat.le_of_ble_eq_true rfl) rfl rfl ?_
  refine g_iconst (v := 3) d_271_87 (by decide) ?_
  refine g_iload_n d_271_88 rfl rfl ?_
  refine g_imul d_271_89 ?_
  refine g_iconst (v := 2) d_271_90 (by decide) ?_
  refine g_iadd d_271_91 ?_
  refine g_aload_n d_271_92 rfl rfl ?_
  exact g_callVI (mj := 206) 9 [] [.int ((3 * v2) + 2), .ref 93] d_271_93 wd_428 mo_206 mc_206 mv_206 rfl rfl rfl (Nat.le_of_ble_eq_true rfl) rfl hdd hC kk

theorem k_271_96 {X : GX} {d : Nat} {h : Hp} {v2 : Int32} {s0 : Int32} {s1 : Int32} {s2 : Nat} (b0 : IA s2 s1) (kk : G X d 271 41 [some (.ref 84), none, some (.int (v2 + 1))] [] (wr h s2 (Int32.toNatClampNeg s1) s0)) : G X d 271 96 [some (.ref 84), none, some (.int v2)] [.int s0, .int s1, .ref s2] h := by
  refine g_iast d_271_96 b0 ?_
  refine g_iinc (w := 1) d_271_97 rfl (by decide) (Nat.le_of_ble_eq_true rfl) rfl ?_
  refine g_goto (tgt := 41) d_271_100 (by decide) ?_
  exact kk

theorem k_271_103 {X : GX} {d : Nat} {h : Hp} {d' : Nat} {Q' : Hp → Prop} (hdd : d' < d) (hC : CV d' 231 [.ref 84] h Q') (kk : ∀ h', Q' h' → G X d 271 107 [some (.ref 84), none, none] [] h') : G X d 271 103 [some (.ref 84), none, none] [] h := by
  refine g_aload_n d_271_103 rfl rfl ?_
  exact g_callVV (mj := 231) 9 [] [] d_271_104 wd_479 mo_231 mc_231 mv_231 rfl rfl rfl (Nat.le_of_ble_eq_true rfl) rfl hdd hC kk

theorem k_271_107 {X : GX} {d : Nat} {h : Hp} (hq : RtX X (some (.int (h 84 27))) h) : G X d 271 107 [some (.ref 84), none, none] [] h := by
  refine g_aload_n d_271_107 rfl rfl ?_
  refine g_getf (ci := 9) (k := 27) d_271_108 wd_382 (Nat.le_of_ble_eq_true rfl) rfl rfl ?_
  exact g_reti d_271_111 rfl hq

/-! 272 PlayedTruthModel.row(II)I -/
theorem k_272_0 {X : GX} {d : Nat} {h : Hp} {v1 : Int32} {v2 : Int32} {d' : Nat} {Q' : Int32 → Hp → Prop} (hdd : d' < d) (hC : CI d' 177 [.long (Int32.toInt64 v1), .long 0, .long (Int32.toInt64 ((h 84 27) - 1))] h Q') (kk : ∀ x h', Q' x h' → G X d 272 13 [some (.ref 84), some (.int v1), some (.int v2)] [.int x] h') : G X d 272 0 [some (.ref 84), some (.int v1), some (.int v2)] [] h := by
  refine g_iload_n d_272_0 rfl rfl ?_
  refine g_i2l d_272_1 ?_
  refine g_lconst (v := 0) d_272_2 (by decide) ?_
  refine g_aload_n d_272_3 rfl rfl ?_
  refine g_getf (ci := 9) (k := 27) d_272_4 wd_382 (Nat.le_of_ble_eq_true rfl) rfl rfl ?_
  refine g_iconst (v := 1) d_272_7 (by decide) ?_
  refine g_isub d_272_8 ?_
  refine g_i2l d_272_9 ?_
  exact g_callSI (mj := 177) [.long (Int32.toInt64 v1), .long 0, .long (Int32.toInt64 ((h 84 27) - 1))] [] d_272_10 wd_395 mo_177 mc_177 mv_177 rfl rfl (Nat.le_of_ble_eq_true rfl)  hdd hC kk

theorem k_272_13 {X : GX} {d : Nat} {h : Hp} {v1 : Int32} {v2 : Int32} {s0 : Int32} (kt : s0 = 0 → G X d 272 41 [none, none, none] [] h) (kf : ¬ s0 = 0 → G X d 272 16 [some (.ref 84), some (.int v1), some (.int v2)] [] h) : G X d 272 13 [some (.ref 84), some (.int v1), some (.int v2)] [.int s0] h := by
  exact g_if_eq (tgt := 41) d_272_13 (by decide) (fun q => g_mask [false, false, false] (kt q)) kf

theorem k_272_16 {X : GX} {d : Nat} {h : Hp} {v1 : Int32} {v2 : Int32} {d' : Nat} {Q' : Int32 → Hp → Prop} (hdd : d' < d) (hC : CI d' 177 [.long (Int32.toInt64 v2), .long 0, .long 2] h Q') (kk : ∀ x h', Q' x h' → G X d 272 25 [some (.ref 84), some (.int v1), some (.int v2)] [.int x] h') : G X d 272 16 [some (.ref 84), some (.int v1), some (.int v2)] [] h := by
  refine g_iload_n d_272_16 rfl rfl ?_
  refine g_i2l d_272_17 ?_
  refine g_lconst (v := 0) d_272_18 (by decide) ?_
  refine g_ldc2_w (v := 2) d_272_19 wd_528 ?_
  exact g_callSI (mj := 177) [.long (Int32.toInt64 v2), .long 0, .long 2] [] d_272_22 wd_395 mo_177 mc_177 mv_177 rfl rfl (Nat.le_of_ble_eq_true rfl)  hdd hC kk

theorem k_272_25 {X : GX} {d : Nat} {h : Hp} {v1 : Int32} {v2 : Int32} {s0 : Int32} (kt : s0 = 0 → G X d 272 41 [none, none, none] [] h) (kf : ¬ s0 = 0 → G X d 272 28 [some (.ref 84), some (.int v1), some (.int v2)] [] h) : G X d 272 25 [some (.ref 84), some (.int v1), some (.int v2)] [.int s0] h := by
  exact g_if_eq (tgt := 41) d_272_25 (by decide) (fun q => g_mask [false, false, false] (kt q)) kf

theorem k_272_28 {X : GX} {d : Nat} {h : Hp} {v1 : Int32} {v2 : Int32} (b0 : IA 93 ((3 * v1) + v2)) (hq : RtX X (some (.int (h 93 (Int32.toNatClampNeg ((3 * v1) + v2))))) h) : G X d 272 28 [some (.ref 84), some (.int v1), some (.int v2)] [] h := by
  refine g_aload_n d_272_28 rfl rfl ?_
  refine g_getf (ci := 9) (k := 26) d_272_29 wd_381 (Nat.le_of_ble_eq_true rfl) rfl rfl ?_
  refine g_iconst (v := 3) d_272_32 (by decide) ?_
  refine g_iload_n d_272_33 rfl rfl ?_
  refine g_imul d_272_34 ?_
  refine g_iload_n d_272_35 rfl rfl ?_
  refine g_iadd d_272_36 ?_
  refine g_iald d_272_37 b0 ?_
  refine g_goto (tgt := 43) d_272_38 (by decide) ?_
  exact g_reti d_272_43 rfl hq

theorem k_272_41 {X : GX} {d : Nat} {h : Hp} (hq : RtX X (some (.int ((-9)))) h) : G X d 272 41 [none, none, none] [] h := by
  refine g_bipush (v := (-9)) d_272_41 (by decide) ?_
  exact g_reti d_272_43 rfl hq

/-! 273 PlayedTruthModel.alterRow(III)I -/
theorem k_273_0 {X : GX} {d : Nat} {h : Hp} {v1 : Int32} {v2 : Int32} {v3 : Int32} {d' : Nat} {Q' : Int32 → Hp → Prop} (hdd : d' < d) (hC : CI d' 177 [.long (Int32.toInt64 v1), .long 0, .long (Int32.toInt64 ((h 84 27) - 1))] h Q') (kk : ∀ x h', Q' x h' → G X d 273 13 [some (.ref 84), some (.int v1), some (.int v2), some (.int v3), none] [.int x] h') : G X d 273 0 [some (.ref 84), some (.int v1), some (.int v2), some (.int v3), none] [] h := by
  refine g_iload_n d_273_0 rfl rfl ?_
  refine g_i2l d_273_1 ?_
  refine g_lconst (v := 0) d_273_2 (by decide) ?_
  refine g_aload_n d_273_3 rfl rfl ?_
  refine g_getf (ci := 9) (k := 27) d_273_4 wd_382 (Nat.le_of_ble_eq_true rfl) rfl rfl ?_
  refine g_iconst (v := 1) d_273_7 (by decide) ?_
  refine g_isub d_273_8 ?_
  refine g_i2l d_273_9 ?_
  exact g_callSI (mj := 177) [.long (Int32.toInt64 v1), .long 0, .long (Int32.toInt64 ((h 84 27) - 1))] [] d_273_10 wd_395 mo_177 mc_177 mv_177 rfl rfl (Nat.le_of_ble_eq_true rfl)  hdd hC kk

theorem k_273_13 {X : GX} {d : Nat} {h : Hp} {v1 : Int32} {v2 : Int32} {v3 : Int32} {s0 : Int32} (kt : s0 = 0 → G X d 273 28 [none, none, none, none, none] [] h) (kf : ¬ s0 = 0 → G X d 273 16 [some (.ref 84), some (.int v1), some (.int v2), some (.int v3), none] [] h) : G X d 273 13 [some (.ref 84), some (.int v1), some (.int v2), some (.int v3), none] [.int s0] h := by
  exact g_if_eq (tgt := 28) d_273_13 (by decide) (fun q => g_mask [false, false, false, false, false] (kt q)) kf

theorem k_273_16 {X : GX} {d : Nat} {h : Hp} {v1 : Int32} {v2 : Int32} {v3 : Int32} {d' : Nat} {Q' : Int32 → Hp → Prop} (hdd : d' < d) (hC : CI d' 177 [.long (Int32.toInt64 v2), .long 0, .long 2] h Q') (kk : ∀ x h', Q' x h' → G X d 273 25 [some (.ref 84), some (.int v1), some (.int v2), some (.int v3), none] [.int x] h') : G X d 273 16 [some (.ref 84), some (.int v1), some (.int v2), some (.int v3), none] [] h := by
  refine g_iload_n d_273_16 rfl rfl ?_
  refine g_i2l d_273_17 ?_
  refine g_lconst (v := 0) d_273_18 (by decide) ?_
  refine g_ldc2_w (v := 2) d_273_19 wd_528 ?_
  exact g_callSI (mj := 177) [.long (Int32.toInt64 v2), .long 0, .long 2] [] d_273_22 wd_395 mo_177 mc_177 mv_177 rfl rfl (Nat.le_of_ble_eq_true rfl)  hdd hC kk

theorem k_273_25 {X : GX} {d : Nat} {h : Hp} {v1 : Int32} {v2 : Int32} {v3 : Int32} {s0 : Int32} (kt : ¬ s0 = 0 → G X d 273 31 [some (.ref 84), some (.int v1), some (.int v2), some (.int v3), none] [] h) (kf : s0 = 0 → G X d 273 28 [none, none, none, none, none] [] h) : G X d 273 25 [some (.ref 84), some (.int v1), some (.int v2), some (.int v3), none] [.int s0] h := by
  exact g_if_ne (tgt := 31) d_273_25 (by decide) kt (fun q => g_mask [false, false, false, false, false] (kf q))

theorem k_273_28 {X : GX} {d : Nat} {h : Hp} (hq : RtX X (some (.int ((-9)))) h) : G X d 273 28 [none, none, none, none, none] [] h := by
  refine g_bipush (v := (-9)) d_273_28 (by decide) ?_
  exact g_reti d_273_30 rfl hq

theorem k_273_31 {X : GX} {d : Nat} {h : Hp} {v1 : Int32} {v2 : Int32} {v3 : Int32} (b0 : IA 93 ((3 * v1) + v2)) (hq : RtX X (some (.int (h 93 (Int32.toNatClampNeg ((3 * v1) + v2))))) (wr h 93 (Int32.toNatClampNeg ((3 * v1) + v2)) v3)) : G X d 273 31 [some (.ref 84), some (.int v1), some (.int v2), some (.int v3), none] [] h := by
  refine g_aload_n d_273_31 rfl rfl ?_
  refine g_getf (ci := 9) (k := 26) d_273_32 wd_381 (Nat.le_of_ble_eq_true rfl) rfl rfl ?_
  refine g_iconst (v := 3) d_273_35 (by decide) ?_
  refine g_iload_n d_273_36 rfl rfl ?_
  refine g_imul d_273_37 ?_
  refine g_iload_n d_273_38 rfl rfl ?_
  refine g_iadd d_273_39 ?_
  refine g_iald d_273_40 b0 ?_
  refine g_istore d_273_41 (Nat.le_of_ble_eq_true rfl) rfl ?_
  refine g_aload_n d_273_43 rfl rfl ?_
  refine g_getf (ci := 9) (k := 26) d_273_44 wd_381 (Nat.le_of_ble_eq_true rfl) rfl rfl ?_
  refine g_iconst (v := 3) d_273_47 (by decide) ?_
  refine g_iload_n d_273_48 rfl rfl ?_
  refine g_imul d_273_49 ?_
  refine g_iload_n d_273_50 rfl rfl ?_
  refine g_iadd d_273_51 ?_
  refine g_iload_n d_273_52 rfl rfl ?_
  refine g_iast d_273_53 b0 ?_
  refine g_iload d_273_54 rfl ?_
  exact g_reti d_273_56 rfl hq

/-! 274 PlayedTruthModel.judge()I -/
theorem k_274_0 {X : GX} {d : Nat} {h : Hp} {d' : Nat} {Q' : Hp → Prop} (hdd : d' < d) (hC : CV d' 229 [.ref 84] h Q') (kk : ∀ h', Q' h' → G X d 274 6 [some (.ref 84), some (.int 0), none, none] [] h') : G X d 274 0 [some (.ref 84), none, none, none] [] h := by
  refine g_iconst (v := 0) d_274_0 (by decide) ?_
  refine g_istore_n d_274_1 rfl (Nat.le_of_ble_eq_true rfl) rfl ?_
  refine g_aload_n d_274_2 rfl rfl ?_
  exact g_callVV (mj := 229) 9 [] [] d_274_3 wd_477 mo_229 mc_229 mv_229 rfl rfl rfl (Nat.le_of_ble_eq_true rfl) rfl hdd hC kk

theorem k_274_6 {X : GX} {d : Nat} {h : Hp} {v1 : Int32} (kk : G X d 274 8 [some (.ref 84), some (.int v1), some (.int 0), none] [] h) : G X d 274 6 [some (.ref 84), some (.int v1), none, none] [] h := by
  refine g_iconst (v := 0) d_274_6 (by decide) ?_
  refine g_istore_n d_274_7 rfl (Nat.le_of_ble_eq_true rfl) rfl ?_
  exact kk

theorem k_274_8 {X : GX} {d : Nat} {h : Hp} {v1 : Int32} {v2 : Int32} (kt : (h 84 27) ≤ v2 → G X d 274 116 [some (.ref 84), some (.int v1), none, none] [] h) (kf : ¬ (h 84 27) ≤ v2 → G X d 274 16 [some (.ref 84), some (.int v1), some (.int v2), none] [] h) : G X d 274 8 [some (.ref 84), some (.int v1), some (.int v2), none] [] h := by
  refine g_iload_n d_274_8 rfl rfl ?_
  refine g_aload_n d_274_9 rfl rfl ?_
  refine g_getf (ci := 9) (k := 27) d_274_10 wd_382 (Nat.le_of_ble_eq_true rfl) rfl rfl ?_
  exact g_icmp_ge (tgt := 116) d_274_13 (by decide) (fun q => g_mask [true, true, false, false] (kt q)) kf

theorem k_274_16 {X : GX} {d : Nat} {h : Hp} {v1 : Int32} {v2 : Int32} (kt : ¬ v1 = 0 → G X d 274 116 [some (.ref 84), some (.int v1), none, none] [] h) (kf : v1 = 0 → G X d 274 20 [some (.ref 84), none, some (.int v2), none] [] h) : G X d 274 16 [some (.ref 84), some (.int v1), some (.int v2), none] [] h := by
  refine g_iload_n d_274_16 rfl rfl ?_
  exact g_if_ne (tgt := 116) d_274_17 (by decide) (fun q => g_mask [true, true, false, false] (kt q)) (fun q => g_mask [true, false, true, false] (kf q))

theorem k_274_20 {X : GX} {d : Nat} {h : Hp} {v2 : Int32} {d' : Nat} {Q' : Int32 → Hp → Prop} (b0 : IA 93 (3 * v2)) (b1 : IA 85 0) (hdd : d' < d) (hC : CI d' 177 [.long (Int32.toInt64 (h 93 (Int32.toNatClampNeg (3 * v2)))), .long 0, .long (Int32.toInt64 (h 85 (Int32.toNatClampNeg 0)))] h Q') (kk : ∀ x h', Q' x h' → G X d 274 40 [some (.ref 84), none, some (.int v2), none] [.int x] h') : G X d 274 20 [some (.ref 84), none, some (.int v2), none] [] h := by
  refine g_aload_n d_274_20 rfl rfl ?_
  refine g_getf (ci := 9) (k := 26) d_274_21 wd_381 (Nat.le_of_ble_eq_true rfl) rfl rfl ?_
  refine g_iconst (v := 3) d_274_24 (by decide) ?_
  refine g_iload_n d_274_25 rfl rfl ?_
  refine g_imul d_274_26 ?_
  refine g_iald d_274_27 b0 ?_
  refine g_i2l d_274_28 ?_
  refine g_lconst (v := 0) d_274_29 (by decide) ?_
  refine g_aload_n d_274_30 rfl rfl ?_
  refine g_getf (ci := 9) (k := 0) d_274_31 wd_355 (Nat.le_of_ble_eq_true rfl) rfl rfl ?_
  refine g_iconst (v := 0) d_274_34 (by decide) ?_
  refine g_iald d_274_35 b1 ?_
  refine g_i2l d_274_36 ?_
  exact g_callSI (mj := 177) [.long (Int32.toInt64 (h 93 (Int32.toNatClampNeg (3 * v2)))), .long 0, .long (Int32.toInt64 (h 85 (Int32.toNatClampNeg 0)))] [] d_274_37 wd_395 mo_177 mc_177 mv_177 rfl rfl (Nat.le_of_ble_eq_true rfl)  hdd hC kk

theorem k_274_40 {X : GX} {d : Nat} {h : Hp} {v2 : Int32} {s0 : Int32} (kt : s0 = 0 → G X d 274 96 [some (.ref 84), none, some (.int v2), none] [] h) (kf : ¬ s0 = 0 → G X d 274 43 [some (.ref 84), none, some (.int v2), none] [] h) : G X d 274 40 [some (.ref 84), none, some (.int v2), none] [.int s0] h := by
  exact g_if_eq (tgt := 96) d_274_40 (by decide) kt kf

theorem k_274_43 {X : GX} {d : Nat} {h : Hp} {v2 : Int32} {d' : Nat} {Q' : Int32 → Hp → Prop} (hdd : d' < d) (hC : CI d' 205 [.ref 84] h Q') (kk : ∀ x h', Q' x h' → G X d 274 47 [some (.ref 84), none, some (.int v2), none] [.int x] h') : G X d 274 43 [some (.ref 84), none, some (.int v2), none] [] h := by
  refine g_aload_n d_274_43 rfl rfl ?_
  exact g_callVI (mj := 205) 9 [] [] d_274_44 wd_427 mo_205 mc_205 mv_205 rfl rfl rfl (Nat.le_of_ble_eq_true rfl) rfl hdd hC kk

theorem k_274_47 {X : GX} {d : Nat} {h : Hp} {v2 : Int32} {s0 : Int32} (kt : ¬ s0 = 0 → G X d 274 96 [some (.ref 84), none, some (.int v2), none] [] h) (kf : s0 = 0 → G X d 274 50 [some (.ref 84), none, some (.int v2), none] [] h) : G X d 274 47 [some (.ref 84), none, some (.int v2), none] [.int s0] h := by
  exact g_if_ne (tgt := 96) d_274_47 (by decide) kt kf

theorem k_274_50 {X : GX} {d : Nat} {h : Hp} {v2 : Int32} {d' : Nat} {Q' : Int32 → Hp → Prop} (b0 : IA 93 (3 * v2)) (hdd : d' < d) (hC : CI d' 226 [.ref 84, .int (h 93 (Int32.toNatClampNeg (3 * v2)))] h Q') (kk : ∀ x h', Q' x h' → G X d 274 62 [some (.ref 84), none, some (.int v2), none] [.int x] h') : G X d 274 50 [some (.ref 84), none, some (.int v2), none] [] h := by
  refine g_aload_n d_274_50 rfl rfl ?_
  refine g_aload_n d_274_51 rfl rfl ?_
  refine g_getf (ci := 9) (k := 26) d_274_52 wd_381 (Nat.le_of_ble_eq_true rfl) rfl rfl ?_
  refine g_iconst (v := 3) d_274_55 (by decide) ?_
  refine g_iload_n d_274_56 rfl rfl ?_
  refine g_imul d_274_57 ?_
  refine g_iald d_274_58 b0 ?_
  exact g_callVI (mj := 226) 9 [.int (h 93 (Int32.toNatClampNeg (3 * v2)))] [] d_274_59 wd_474 mo_226 mc_226 mv_226 rfl rfl rfl (Nat.le_of_ble_eq_true rfl) rfl hdd hC kk

theorem k_274_62 {X : GX} {d : Nat} {h : Hp} {v2 : Int32} {s0 : Int32} (b0 : IA 93 ((3 * v2) + 1)) (kt : ¬ s0 = (h 93 (Int32.toNatClampNeg ((3 * v2) + 1))) → G X d 274 96 [some (.ref 84), none, some (.int v2), none] [] h) (kf : s0 = (h 93 (Int32.toNatClampNeg ((3 * v2) + 1))) → G X d 274 75 [some (.ref 84), none, some (.int v2), none] [] h) : G X d 274 62 [some (.ref 84), none, some (.int v2), none] [.int s0] h := by
  refine g_aload_n d_274_62 rfl rfl ?_
  refine g_getf (ci := 9) (k := 26) d_274_63 wd_381 (Nat.le_of_ble_eq_true rfl) rfl rfl ?_
  refine g_iconst (v := 3) d_274_66 (by decide) ?_
  refine g_iload_n d_274_67 rfl rfl ?_
  refine g_imul d_274_68 ?_
  refine g_iconst (v := 1) d_274_69 (by decide) ?_
  refine g_iadd d_274_70 ?_
  refine g_iald d_274_71 b0 ?_
  exact g_icmp_ne (tgt := 96) d_274_72 (by decide) kt kf

theorem k_274_75 {X : GX} {d : Nat} {h : Hp} {v2 : Int32} {d' : Nat} {Q' : Int32 → Hp → Prop} (hdd : d' < d) (hC : CI d' 206 [.ref 84] h Q') (kk : ∀ x h', Q' x h' → G X d 274 79 [some (.ref 84), none, some (.int v2), none] [.int x] h') : G X d 274 75 [some (.ref 84), none, some (.int v2), none] [] h := by
  refine g_aload_n d_274_75 rfl rfl ?_
  exact g_callVI (mj := 206) 9 [] [] d_274_76 wd_428 mo_206 mc_206 mv_206 rfl rfl rfl (Nat.le_of_ble_eq_true rfl) rfl hdd hC kk

theorem k_274_79 {X : GX} {d : Nat} {h : Hp} {v2 : Int32} {s0 : Int32} (b0 : IA 93 ((3 * v2) + 2)) (kt : ¬ s0 = (h 93 (Int32.toNatClampNeg ((3 * v2) + 2))) → G X d 274 96 [some (.ref 84), none, some (.int v2), none] [] h) (kf : s0 = (h 93 (Int32.toNatClampNeg ((3 * v2) + 2))) → G X d 274 92 [some (.ref 84), none, some (.int v2), none] [] h) : G X d 274 79 [some (.ref 84), none, some (.int v2), none] [.int s0] h := by
  refine g_aload_n d_274_79 rfl rfl ?_
  refine g_getf (ci := 9) (k := 26) d_274_80 wd_381 (Nat.le_of_ble_eq_true rfl) rfl rfl ?_
  refine g_iconst (v := 3) d_274_83 (by decide) ?_
  refine g_iload_n d_274_84 rfl rfl ?_
  refine g_imul d_274_85 ?_
  refine g_iconst (v := 2) d_274_86 (by decide) ?_
  refine g_iadd d_274_87 ?_
  refine g_iald d_274_88 b0 ?_
  exact g_icmp_ne (tgt := 96) d_274_89 (by decide) kt kf

theorem k_274_92 {X : GX} {d : Nat} {h : Hp} {v2 : Int32} (kk : G X d 274 8 [some (.ref 84), some (.int 0), some (.int (v2 + 1)), none] [] h) : G X d 274 92 [some (.ref 84), none, some (.int v2), none] [] h := by
  refine g_iconst (v := 1) d_274_92 (by decide) ?_
  refine g_goto (tgt := 97) d_274_93 (by decide) ?_
  refine g_istore_n d_274_97 rfl (Nat.le_of_ble_eq_true rfl) rfl ?_
  refine g_iload_n d_274_98 rfl rfl ?_
  refine g_if_eq (tgt := 106) d_274_99 (by decide) (fun q => absurd q (by decide)) (fun _ => ?_)
  refine g_iconst (v := 0) d_274_102 (by decide) ?_
  refine g_goto (tgt := 109) d_274_103 (by decide) ?_
  refine g_istore_n d_274_109 rfl (Nat.le_of_ble_eq_true rfl) rfl ?_
  refine g_iinc (w := 1) d_274_110 rfl (by decide) (Nat.le_of_ble_eq_true rfl) rfl ?_
  refine g_goto (tgt := 8) d_274_113 (by decide) ?_
  exact g_mask [true, true, true, false] kk

theorem k_274_96 {X : GX} {d : Nat} {h : Hp} {v2 : Int32} (kk : G X d 274 8 [some (.ref 84), some (.int (v2 + 1)), some (.int (v2 + 1)), none] [] h) : G X d 274 96 [some (.ref 84), none, some (.int v2), none] [] h := by
  refine g_iconst (v := 0) d_274_96 (by decide) ?_
  refine g_istore_n d_274_97 rfl (Nat.le_of_ble_eq_true rfl) rfl ?_
  refine g_iload_n d_274_98 rfl rfl ?_
  refine g_if_eq (tgt := 106) d_274_99 (by decide) (fun _ => ?_) (fun q => absurd q (by decide))
  refine g_iload_n d_274_106 rfl rfl ?_
  refine g_iconst (v := 1) d_274_107 (by decide) ?_
  refine g_iadd d_274_108 ?_
  refine g_istore_n d_274_109 rfl (Nat.le_of_ble_eq_true rfl) rfl ?_
  refine g_iinc (w := 1) d_274_110 rfl (by decide) (Nat.le_of_ble_eq_true rfl) rfl ?_
  refine g_goto (tgt := 8) d_274_113 (by decide) ?_
  exact g_mask [true, true, true, false] kk

theorem k_274_102 {X : GX} {d : Nat} {h : Hp} {v2 : Int32} (kk : G X d 274 8 [some (.ref 84), some (.int 0), some (.int (v2 + 1)), none] [] h) : G X d 274 102 [some (.ref 84), none, some (.int v2), none] [] h := by
  refine g_iconst (v := 0) d_274_102 (by decide) ?_
  refine g_goto (tgt := 109) d_274_103 (by decide) ?_
  refine g_istore_n d_274_109 rfl (Nat.le_of_ble_eq_true rfl) rfl ?_
  refine g_iinc (w := 1) d_274_110 rfl (by decide) (Nat.le_of_ble_eq_true rfl) rfl ?_
  refine g_goto (tgt := 8) d_274_113 (by decide) ?_
  exact kk

theorem k_274_106 {X : GX} {d : Nat} {h : Hp} {v2 : Int32} (kk : G X d 274 8 [some (.ref 84), some (.int (v2 + 1)), some (.int (v2 + 1)), none] [] h) : G X d 274 106 [some (.ref 84), none, some (.int v2), none] [] h := by
  refine g_iload_n d_274_106 rfl rfl ?_
  refine g_iconst (v := 1) d_274_107 (by decide) ?_
  refine g_iadd d_274_108 ?_
  refine g_istore_n d_274_109 rfl (Nat.le_of_ble_eq_true rfl) rfl ?_
  refine g_iinc (w := 1) d_274_110 rfl (by decide) (Nat.le_of_ble_eq_true rfl) rfl ?_
  refine g_goto (tgt := 8) d_274_113 (by decide) ?_
  exact kk

theorem k_274_116 {X : GX} {d : Nat} {h : Hp} {v1 : Int32} {d' : Nat} {Q' : Hp → Prop} (hdd : d' < d) (hC : CV d' 231 [.ref 84] h Q') (kk : ∀ h', Q' h' → G X d 274 120 [none, some (.int v1), none, none] [] h') : G X d 274 116 [some (.ref 84), some (.int v1), none, none] [] h := by
  refine g_aload_n d_274_116 rfl rfl ?_
  exact g_callVV (mj := 231) 9 [] [] d_274_117 wd_479 mo_231 mc_231 mv_231 rfl rfl rfl (Nat.le_of_ble_eq_true rfl) rfl hdd hC (fun h' q => g_mask [false, true, false, false] (kk h' q))

theorem k_274_120 {X : GX} {d : Nat} {h : Hp} {v1 : Int32} (hq : RtX X (some (.int v1)) h) : G X d 274 120 [none, some (.int v1), none, none] [] h := by
  refine g_iload_n d_274_120 rfl rfl ?_
  exact g_reti d_274_121 rfl hq

/-! 275 PlayedTruthModel.sheet(III)I -/
theorem k_275_0 {X : GX} {d : Nat} {h : Hp} {v1 : Int32} {v2 : Int32} {v3 : Int32} {d' : Nat} {Q' : Int32 → Hp → Prop} (hdd : d' < d) (hC : CI d' 276 [.int v1] h Q') (kk : ∀ x h', Q' x h' → G X d 275 4 [some (.ref 84), some (.int v1), some (.int v2), some (.int v3), none] [.int x] h') : G X d 275 0 [some (.ref 84), some (.int v1), some (.int v2), some (.int v3), none] [] h := by
  refine g_iload_n d_275_0 rfl rfl ?_
  exact g_callSI (mj := 276) [.int v1] [] d_275_1 wd_532 mo_276 mc_276 mv_276 rfl rfl (Nat.le_of_ble_eq_true rfl)  hdd hC kk

theorem k_275_4 {X : GX} {d : Nat} {h : Hp} {v1 : Int32} {v2 : Int32} {v3 : Int32} {s0 : Int32} (kt : s0 = 0 → G X d 275 31 [none, none, none, none, none] [] h) (kf : ¬ s0 = 0 → G X d 275 7 [some (.ref 84), some (.int v1), some (.int v2), some (.int v3), none] [] h) : G X d 275 4 [some (.ref 84), some (.int v1), some (.int v2), some (.int v3), none] [.int s0] h := by
  exact g_if_eq (tgt := 31) d_275_4 (by decide) (fun q => g_mask [false, false, false, false, false] (kt q)) kf

theorem k_275_7 {X : GX} {d : Nat} {h : Hp} {v1 : Int32} {v2 : Int32} {v3 : Int32} {d' : Nat} {Q' : Int32 → Hp → Prop} (hdd : d' < d) (hC : CI d' 177 [.long (Int32.toInt64 v2), .long ((-1)), .long 4] h Q') (kk : ∀ x h', Q' x h' → G X d 275 18 [some (.ref 84), some (.int v1), some (.int v2), some (.int v3), none] [.int x] h') : G X d 275 7 [some (.ref 84), some (.int v1), some (.int v2), some (.int v3), none] [] h := by
  refine g_iload_n d_275_7 rfl rfl ?_
  refine g_i2l d_275_8 ?_
  refine g_ldc2_w (v := (-1)) d_275_9 wd_438 ?_
  refine g_ldc2_w (v := 4) d_275_12 wd_498 ?_
  exact g_callSI (mj := 177) [.long (Int32.toInt64 v2), .long ((-1)), .long 4] [] d_275_15 wd_395 mo_177 mc_177 mv_177 rfl rfl (Nat.le_of_ble_eq_true rfl)  hdd hC kk

theorem k_275_18 {X : GX} {d : Nat} {h : Hp} {v1 : Int32} {v2 : Int32} {v3 : Int32} {s0 : Int32} (kt : s0 = 0 → G X d 275 31 [none, none, none, none, none] [] h) (kf : ¬ s0 = 0 → G X d 275 21 [some (.ref 84), some (.int v1), some (.int v2), some (.int v3), none] [] h) : G X d 275 18 [some (.ref 84), some (.int v1), some (.int v2), some (.int v3), none] [.int s0] h := by
  exact g_if_eq (tgt := 31) d_275_18 (by decide) (fun q => g_mask [false, false, false, false, false] (kt q)) kf

theorem k_275_21 {X : GX} {d : Nat} {h : Hp} {v1 : Int32} {v2 : Int32} {v3 : Int32} (kt : v2 < 0 → G X d 275 33 [some (.ref 84), some (.int v1), some (.int v2), some (.int v3), none] [] h) (kf : ¬ v2 < 0 → G X d 275 25 [some (.ref 84), some (.int v1), some (.int v2), some (.int v3), none] [] h) : G X d 275 21 [some (.ref 84), some (.int v1), some (.int v2), some (.int v3), none] [] h := by
  refine g_iload_n d_275_21 rfl rfl ?_
  exact g_if_lt (tgt := 33) d_275_22 (by decide) kt kf

theorem k_275_25 {X : GX} {d : Nat} {h : Hp} {v1 : Int32} {v2 : Int32} {v3 : Int32} (kt : v3 ≤ 40 → G X d 275 33 [some (.ref 84), some (.int v1), some (.int v2), some (.int v3), none] [] h) (kf : ¬ v3 ≤ 40 → G X d 275 31 [none, none, none, none, none] [] h) : G X d 275 25 [some (.ref 84), some (.int v1), some (.int v2), some (.int v3), none] [] h := by
  refine g_iload_n d_275_25 rfl rfl ?_
  refine g_bipush (v := 40) d_275_26 (by decide) ?_
  exact g_icmp_le (tgt := 33) d_275_28 (by decide) kt (fun q => g_mask [false, false, false, false, false] (kf q))

theorem k_275_31 {X : GX} {d : Nat} {h : Hp} (hq : RtX X (some (.int ((-1)))) h) : G X d 275 31 [none, none, none, none, none] [] h := by
  refine g_iconst (v := (-1)) d_275_31 (by decide) ?_
  exact g_reti d_275_32 rfl hq

theorem k_275_33 {X : GX} {d : Nat} {h : Hp} {v1 : Int32} {v2 : Int32} {v3 : Int32} (kt : v2 < 0 → G X d 275 44 [some (.ref 84), some (.int v1), some (.int v2), some (.int v3), none] [] h) (kf : ¬ v2 < 0 → G X d 275 37 [some (.ref 84), some (.int v1), some (.int v2), some (.int v3), none] [] h) : G X d 275 33 [some (.ref 84), some (.int v1), some (.int v2), some (.int v3), none] [] h := by
  refine g_iload_n d_275_33 rfl rfl ?_
  exact g_if_lt (tgt := 44) d_275_34 (by decide) kt kf

theorem k_275_37 {X : GX} {d : Nat} {h : Hp} {v1 : Int32} {v2 : Int32} {v3 : Int32} (kt : 0 ≤ v3 → G X d 275 44 [some (.ref 84), some (.int v1), some (.int v2), some (.int v3), none] [] h) (kf : ¬ 0 ≤ v3 → G X d 275 41 [none, none, none, none, none] [] h) : G X d 275 37 [some (.ref 84), some (.int v1), some (.int v2), some (.int v3), none] [] h := by
  refine g_iload_n d_275_37 rfl rfl ?_
  exact g_if_ge (tgt := 44) d_275_38 (by decide) kt (fun q => g_mask [false, false, false, false, false] (kf q))

theorem k_275_41 {X : GX} {d : Nat} {h : Hp} (hq : RtX X (some (.int ((-14)))) h) : G X d 275 41 [none, none, none, none, none] [] h := by
  refine g_bipush (v := (-14)) d_275_41 (by decide) ?_
  exact g_reti d_275_43 rfl hq

theorem k_275_44 {X : GX} {d : Nat} {h : Hp} {v1 : Int32} {v2 : Int32} {v3 : Int32} (b0 : IA 94 v1) (kt : 0 ≤ v2 → G X d 275 66 [some (.ref 84), some (.int v1), none, some (.int v3), none] [.int v1, .ref 95] (wr h 94 (Int32.toNatClampNeg v1) (v2 + 1))) (kf : ¬ 0 ≤ v2 → G X d 275 62 [some (.ref 84), some (.int v1), none, none, none] [.int v1, .ref 95] (wr h 94 (Int32.toNatClampNeg v1) (v2 + 1))) : G X d 275 44 [some (.ref 84), some (.int v1), some (.int v2), some (.int v3), none] [] h := by
  refine g_aload_n d_275_44 rfl rfl ?_
  refine g_getf (ci := 9) (k := 28) d_275_45 wd_383 (Nat.le_of_ble_eq_true rfl) rfl rfl ?_
  refine g_iload_n d_275_48 rfl rfl ?_
  refine g_iload_n d_275_49 rfl rfl ?_
  refine g_iconst (v := 1) d_275_50 (by decide) ?_
  refine g_iadd d_275_51 ?_
  refine g_iast d_275_52 b0 ?_
  refine g_aload_n d_275_53 rfl rfl ?_
  refine g_getf (ci := 9) (k := 29) d_275_54 wd_384 (Nat.le_of_ble_eq_true rfl) rfl rfl ?_
  refine g_iload_n d_275_57 rfl rfl ?_
  refine g_iload_n d_275_58 rfl rfl ?_
  exact g_if_ge (tgt := 66) d_275_59 (by decide) (fun q => g_mask [true, true, false, true, false] (kt q)) (fun q => g_mask [true, true, false, false, false] (kf q))

theorem k_275_62 {X : GX} {d : Nat} {h : Hp} {v1 : Int32} {s0 : Int32} {s1 : Nat} (b0 : IA s1 s0) (kk : G X d 275 71 [some (.ref 84), some (.int v1), none, none, some (.int 0)] [] (wr h s1 (Int32.toNatClampNeg s0) 0)) : G X d 275 62 [some (.ref 84), some (.int v1), none, none, none] [.int s0, .ref s1] h := by
  refine g_iconst (v := 0) d_275_62 (by decide) ?_
  refine g_goto (tgt := 67) d_275_63 (by decide) ?_
  refine g_iast d_275_67 b0 ?_
  refine g_iconst (v := 0) d_275_68 (by decide) ?_
  refine g_istore d_275_69 (Nat.le_of_ble_eq_true rfl) rfl ?_
  exact kk

theorem k_275_66 {X : GX} {d : Nat} {h : Hp} {v1 : Int32} {v3 : Int32} {s0 : Int32} {s1 : Nat} (b0 : IA s1 s0) (kk : G X d 275 71 [some (.ref 84), some (.int v1), none, none, some (.int 0)] [] (wr h s1 (Int32.toNatClampNeg s0) v3)) : G X d 275 66 [some (.ref 84), some (.int v1), none, some (.int v3), none] [.int s0, .ref s1] h := by
  refine g_iload_n d_275_66 rfl rfl ?_
  refine g_iast d_275_67 b0 ?_
  refine g_iconst (v := 0) d_275_68 (by decide) ?_
  refine g_istore d_275_69 (Nat.le_of_ble_eq_true rfl) rfl ?_
  exact g_mask [true, true, false, false, true] kk

theorem k_275_71 {X : GX} {d : Nat} {h : Hp} {v1 : Int32} {v4 : Int32} (kt : 40 ≤ v4 → G X d 275 97 [none, none, none, none, none] [] h) (kf : ¬ 40 ≤ v4 → G X d 275 78 [some (.ref 84), some (.int v1), none, none, some (.int v4)] [] h) : G X d 275 71 [some (.ref 84), some (.int v1), none, none, some (.int v4)] [] h := by
  refine g_iload d_275_71 rfl ?_
  refine g_bipush (v := 40) d_275_73 (by decide) ?_
  exact g_icmp_ge (tgt := 97) d_275_75 (by decide) (fun q => g_mask [false, false, false, false, false] (kt q)) kf

theorem k_275_78 {X : GX} {d : Nat} {h : Hp} {v1 : Int32} {v4 : Int32} (b0 : IA 96 ((40 * v1) + v4)) (kk : G X d 275 71 [some (.ref 84), some (.int v1), none, none, some (.int (v4 + 1))] [] (wr h 96 (Int32.toNatClampNeg ((40 * v1) + v4)) 0)) : G X d 275 78 [some (.ref 84), some (.int v1), none, none, some (.int v4)] [] h := by
  refine g_aload_n d_275_78 rfl rfl ?_
  refine g_getf (ci := 9) (k := 30) d_275_79 wd_385 (Nat.le_of_ble_eq_true rfl) rfl rfl ?_
  refine g_bipush (v := 40) d_275_82 (by decide) ?_
  refine g_iload_n d_275_84 rfl rfl ?_
  refine g_imul d_275_85 ?_
  refine g_iload d_275_86 rfl ?_
  refine g_iadd d_275_88 ?_
  refine g_iconst (v := 0) d_275_89 (by decide) ?_
  refine g_iast d_275_90 b0 ?_
  refine g_iinc (w := 1) d_275_91 rfl (by decide) (Nat.le_of_ble_eq_true rfl) rfl ?_
  refine g_goto (tgt := 71) d_275_94 (by decide) ?_
  exact kk

theorem k_275_97 {X : GX} {d : Nat} {h : Hp} (hq : RtX X (some (.int 1)) h) : G X d 275 97 [none, none, none, none, none] [] h := by
  refine g_iconst (v := 1) d_275_97 (by decide) ?_
  exact g_reti d_275_98 rfl hq

/-! 276 PlayedTruthModel.isSheet(I)Z -/
theorem k_276_0 {X : GX} {d : Nat} {h : Hp} {v0 : Int32} {d' : Nat} {Q' : Int32 → Hp → Prop} (hdd : d' < d) (hC : CI d' 177 [.long (Int32.toInt64 v0), .long 0, .long 3] h Q') (kk : ∀ x h', Q' x h' → G X d 276 9 [none] [.int x] h') : G X d 276 0 [some (.int v0)] [] h := by
  refine g_iload_n d_276_0 rfl rfl ?_
  refine g_i2l d_276_1 ?_
  refine g_lconst (v := 0) d_276_2 (by decide) ?_
  refine g_ldc2_w (v := 3) d_276_3 wd_504 ?_
  exact g_callSI (mj := 177) [.long (Int32.toInt64 v0), .long 0, .long 3] [] d_276_6 wd_395 mo_177 mc_177 mv_177 rfl rfl (Nat.le_of_ble_eq_true rfl)  hdd hC (fun x h' q => g_mask [false] (kk x h' q))

theorem k_276_9 {X : GX} {d : Nat} {h : Hp} {s0 : Int32} (z0 : s0 = 0 ∨ s0 = 1) (hq : RtX X (some (.int s0)) h) : G X d 276 9 [none] [.int s0] h := by
  exact g_retz d_276_9 rfl z0 hq

/-! 277 PlayedTruthModel.write(III)I -/
theorem k_277_0 {X : GX} {d : Nat} {h : Hp} {v1 : Int32} {v2 : Int32} {v3 : Int32} {d' : Nat} {Q' : Int32 → Hp → Prop} (hdd : d' < d) (hC : CI d' 276 [.int v1] h Q') (kk : ∀ x h', Q' x h' → G X d 277 4 [some (.ref 84), some (.int v1), some (.int v2), some (.int v3), none] [.int x] h') : G X d 277 0 [some (.ref 84), some (.int v1), some (.int v2), some (.int v3), none] [] h := by
  refine g_iload_n d_277_0 rfl rfl ?_
  exact g_callSI (mj := 276) [.int v1] [] d_277_1 wd_532 mo_276 mc_276 mv_276 rfl rfl (Nat.le_of_ble_eq_true rfl)  hdd hC kk

theorem k_277_4 {X : GX} {d : Nat} {h : Hp} {v1 : Int32} {v2 : Int32} {v3 : Int32} {s0 : Int32} (kt : ¬ s0 = 0 → G X d 277 9 [some (.ref 84), some (.int v1), some (.int v2), some (.int v3), none] [] h) (kf : s0 = 0 → G X d 277 7 [none, none, none, none, none] [] h) : G X d 277 4 [some (.ref 84), some (.int v1), some (.int v2), some (.int v3), none] [.int s0] h := by
  exact g_if_ne (tgt := 9) d_277_4 (by decide) kt (fun q => g_mask [false, false, false, false, false] (kf q))

theorem k_277_7 {X : GX} {d : Nat} {h : Hp} (hq : RtX X (some (.int ((-1)))) h) : G X d 277 7 [none, none, none, none, none] [] h := by
  refine g_iconst (v := (-1)) d_277_7 (by decide) ?_
  exact g_reti d_277_8 rfl hq

theorem k_277_9 {X : GX} {d : Nat} {h : Hp} {v1 : Int32} {v2 : Int32} {v3 : Int32} (b0 : IA 94 v1) (kt : ¬ (h 94 (Int32.toNatClampNeg v1)) = 0 → G X d 277 21 [some (.ref 84), some (.int v1), some (.int v2), some (.int v3), none] [] h) (kf : (h 94 (Int32.toNatClampNeg v1)) = 0 → G X d 277 18 [none, none, none, none, none] [] h) : G X d 277 9 [some (.ref 84), some (.int v1), some (.int v2), some (.int v3), none] [] h := by
  refine g_aload_n d_277_9 rfl rfl ?_
  refine g_getf (ci := 9) (k := 28) d_277_10 wd_383 (Nat.le_of_ble_eq_true rfl) rfl rfl ?_
  refine g_iload_n d_277_13 rfl rfl ?_
  refine g_iald d_277_14 b0 ?_
  exact g_if_ne (tgt := 21) d_277_15 (by decide) kt (fun q => g_mask [false, false, false, false, false] (kf q))

theorem k_277_18 {X : GX} {d : Nat} {h : Hp} (hq : RtX X (some (.int ((-11)))) h) : G X d 277 18 [none, none, none, none, none] [] h := by
  refine g_bipush (v := (-11)) d_277_18 (by decide) ?_
  exact g_reti d_277_20 rfl hq

theorem k_277_21 {X : GX} {d : Nat} {h : Hp} {v1 : Int32} {v2 : Int32} {v3 : Int32} {d' : Nat} {Q' : Int32 → Hp → Prop} (b0 : IA 95 v1) (hdd : d' < d) (hC : CI d' 177 [.long (Int32.toInt64 v2), .long 0, .long (Int32.toInt64 ((h 95 (Int32.toNatClampNeg v1)) - 1))] h Q') (kk : ∀ x h', Q' x h' → G X d 277 36 [some (.ref 84), some (.int v1), some (.int v2), some (.int v3), none] [.int x] h') : G X d 277 21 [some (.ref 84), some (.int v1), some (.int v2), some (.int v3), none] [] h := by
  refine g_iload_n d_277_21 rfl rfl ?_
  refine g_i2l d_277_22 ?_
  refine g_lconst (v := 0) d_277_23 (by decide) ?_
  refine g_aload_n d_277_24 rfl rfl ?_
  refine g_getf (ci := 9) (k := 29) d_277_25 wd_384 (Nat.le_of_ble_eq_true rfl) rfl rfl ?_
  refine g_iload_n d_277_28 rfl rfl ?_
  refine g_iald d_277_29 b0 ?_
  refine g_iconst (v := 1) d_277_30 (by decide) ?_
  refine g_isub d_277_31 ?_
  refine g_i2l d_277_32 ?_
  exact g_callSI (mj := 177) [.long (Int32.toInt64 v2), .long 0, .long (Int32.toInt64 ((h 95 (Int32.toNatClampNeg v1)) - 1))] [] d_277_33 wd_395 mo_177 mc_177 mv_177 rfl rfl (Nat.le_of_ble_eq_true rfl)  hdd hC kk

theorem k_277_36 {X : GX} {d : Nat} {h : Hp} {v1 : Int32} {v2 : Int32} {v3 : Int32} {s0 : Int32} (kt : ¬ s0 = 0 → G X d 277 42 [some (.ref 84), some (.int v1), some (.int v2), some (.int v3), none] [] h) (kf : s0 = 0 → G X d 277 39 [none, none, none, none, none] [] h) : G X d 277 36 [some (.ref 84), some (.int v1), some (.int v2), some (.int v3), none] [.int s0] h := by
  exact g_if_ne (tgt := 42) d_277_36 (by decide) kt (fun q => g_mask [false, false, false, false, false] (kf q))

theorem k_277_39 {X : GX} {d : Nat} {h : Hp} (hq : RtX X (some (.int ((-12)))) h) : G X d 277 39 [none, none, none, none, none] [] h := by
  refine g_bipush (v := (-12)) d_277_39 (by decide) ?_
  exact g_reti d_277_41 rfl hq

theorem k_277_42 {X : GX} {d : Nat} {h : Hp} {v1 : Int32} {v2 : Int32} {v3 : Int32} (b0 : IA 94 v1) (kt : ¬ (h 94 (Int32.toNatClampNeg v1)) = 1 → G X d 277 71 [none, none, none, some (.int v3), some (.int (h 94 (Int32.toNatClampNeg v1)))] [.int ((40 * v1) + v2), .ref 96] h) (kf : (h 94 (Int32.toNatClampNeg v1)) = 1 → G X d 277 66 [none, none, none, some (.int v3), none] [.int ((40 * v1) + v2), .ref 96] h) : G X d 277 42 [some (.ref 84), some (.int v1), some (.int v2), some (.int v3), none] [] h := by
  refine g_aload_n d_277_42 rfl rfl ?_
  refine g_getf (ci := 9) (k := 28) d_277_43 wd_383 (Nat.le_of_ble_eq_true rfl) rfl rfl ?_
  refine g_iload_n d_277_46 rfl rfl ?_
  refine g_iald d_277_47 b0 ?_
  refine g_istore d_277_48 (Nat.le_of_ble_eq_true rfl) rfl ?_
  refine g_aload_n d_277_50 rfl rfl ?_
  refine g_getf (ci := 9) (k := 30) d_277_51 wd_385 (Nat.le_of_ble_eq_true rfl) rfl rfl ?_
  refine g_bipush (v := 40) d_277_54 (by decide) ?_
  refine g_iload_n d_277_56 rfl rfl ?_
  refine g_imul d_277_57 ?_
  refine g_iload_n d_277_58 rfl rfl ?_
  refine g_iadd d_277_59 ?_
  refine g_iload d_277_60 rfl ?_
  refine g_iconst (v := 1) d_277_62 (by decide) ?_
  exact g_icmp_ne (tgt := 71) d_277_63 (by decide) (fun q => g_mask [false, false, false, true, true] (kt q)) (fun q => g_mask [false, false, false, true, false] (kf q))

theorem k_277_66 {X : GX} {d : Nat} {h : Hp} {v3 : Int32} {s0 : Int32} {s1 : Nat} (b0 : IA s1 s0) (hq : RtX X (some (.int 1)) (wr h s1 (Int32.toNatClampNeg s0) ((Int32.toInt8 v3).toInt32))) : G X d 277 66 [none, none, none, some (.int v3), none] [.int s0, .ref s1] h := by
  refine g_iload_n d_277_66 rfl rfl ?_
  refine g_i2b d_277_67 ?_
  refine g_goto (tgt := 101) d_277_68 (by decide) ?_
  refine g_iast d_277_101 b0 ?_
  refine g_iconst (v := 1) d_277_102 (by decide) ?_
  exact g_reti d_277_103 rfl hq

theorem k_277_71 {X : GX} {d : Nat} {h : Hp} {v3 : Int32} {v4 : Int32} {s0 : Int32} {s1 : Nat} (kt : ¬ v4 = 2 → G X d 277 82 [none, none, none, some (.int v3), some (.int v4)] [.int s0, .ref s1] h) (kf : v4 = 2 → G X d 277 77 [none, none, none, some (.int v3), none] [.int s0, .ref s1] h) : G X d 277 71 [none, none, none, some (.int v3), some (.int v4)] [.int s0, .ref s1] h := by
  refine g_iload d_277_71 rfl ?_
  refine g_iconst (v := 2) d_277_73 (by decide) ?_
  exact g_icmp_ne (tgt := 82) d_277_74 (by decide) kt (fun q => g_mask [false, false, false, true, false] (kf q))

theorem k_277_77 {X : GX} {d : Nat} {h : Hp} {v3 : Int32} {s0 : Int32} {s1 : Nat} (b0 : IA s1 s0) (hq : RtX X (some (.int 1)) (wr h s1 (Int32.toNatClampNeg s0) ((Int32.toInt16 v3).toInt32))) : G X d 277 77 [none, none, none, some (.int v3), none] [.int s0, .ref s1] h := by
  refine g_iload_n d_277_77 rfl rfl ?_
  refine g_i2s d_277_78 ?_
  refine g_goto (tgt := 101) d_277_79 (by decide) ?_
  refine g_iast d_277_101 b0 ?_
  refine g_iconst (v := 1) d_277_102 (by decide) ?_
  exact g_reti d_277_103 rfl hq

theorem k_277_82 {X : GX} {d : Nat} {h : Hp} {v3 : Int32} {v4 : Int32} {s0 : Int32} {s1 : Nat} (kt : ¬ v4 = 5 → G X d 277 100 [none, none, none, some (.int v3), none] [.int s0, .ref s1] h) (kf : v4 = 5 → G X d 277 88 [none, none, none, some (.int v3), none] [.int s0, .ref s1] h) : G X d 277 82 [none, none, none, some (.int v3), some (.int v4)] [.int s0, .ref s1] h := by
  refine g_iload d_277_82 rfl ?_
  refine g_iconst (v := 5) d_277_84 (by decide) ?_
  exact g_icmp_ne (tgt := 100) d_277_85 (by decide) (fun q => g_mask [false, false, false, true, false] (kt q)) (fun q => g_mask [false, false, false, true, false] (kf q))

theorem k_277_88 {X : GX} {d : Nat} {h : Hp} {v3 : Int32} {s0 : Int32} {s1 : Nat} (kt : ¬ v3 = 0 → G X d 277 96 [none, none, none, none, none] [.int s0, .ref s1] h) (kf : v3 = 0 → G X d 277 92 [none, none, none, none, none] [.int s0, .ref s1] h) : G X d 277 88 [none, none, none, some (.int v3), none] [.int s0, .ref s1] h := by
  refine g_iload_n d_277_88 rfl rfl ?_
  exact g_if_ne (tgt := 96) d_277_89 (by decide) (fun q => g_mask [false, false, false, false, false] (kt q)) (fun q => g_mask [false, false, false, false, false] (kf q))

theorem k_277_92 {X : GX} {d : Nat} {h : Hp} {s0 : Int32} {s1 : Nat} (b0 : IA s1 s0) (hq : RtX X (some (.int 1)) (wr h s1 (Int32.toNatClampNeg s0) 0)) : G X d 277 92 [none, none, none, none, none] [.int s0, .ref s1] h := by
  refine g_iconst (v := 0) d_277_92 (by decide) ?_
  refine g_goto (tgt := 101) d_277_93 (by decide) ?_
  refine g_iast d_277_101 b0 ?_
  refine g_iconst (v := 1) d_277_102 (by decide) ?_
  exact g_reti d_277_103 rfl hq

theorem k_277_96 {X : GX} {d : Nat} {h : Hp} {s0 : Int32} {s1 : Nat} (b0 : IA s1 s0) (hq : RtX X (some (.int 1)) (wr h s1 (Int32.toNatClampNeg s0) 1)) : G X d 277 96 [none, none, none, none, none] [.int s0, .ref s1] h := by
  refine g_iconst (v := 1) d_277_96 (by decide) ?_
  refine g_goto (tgt := 101) d_277_97 (by decide) ?_
  refine g_iast d_277_101 b0 ?_
  refine g_iconst (v := 1) d_277_102 (by decide) ?_
  exact g_reti d_277_103 rfl hq

theorem k_277_100 {X : GX} {d : Nat} {h : Hp} {v3 : Int32} {s0 : Int32} {s1 : Nat} (b0 : IA s1 s0) (hq : RtX X (some (.int 1)) (wr h s1 (Int32.toNatClampNeg s0) v3)) : G X d 277 100 [none, none, none, some (.int v3), none] [.int s0, .ref s1] h := by
  refine g_iload_n d_277_100 rfl rfl ?_
  refine g_iast d_277_101 b0 ?_
  refine g_iconst (v := 1) d_277_102 (by decide) ?_
  exact g_reti d_277_103 rfl hq

/-! 278 PlayedTruthModel.item(III)I -/
theorem k_278_0 {X : GX} {d : Nat} {h : Hp} {v1 : Int32} {v2 : Int32} {v3 : Int32} {d' : Nat} {Q' : Int32 → Hp → Prop} (hdd : d' < d) (hC : CI d' 276 [.int v1] h Q') (kk : ∀ x h', Q' x h' → G X d 278 4 [some (.ref 84), some (.int v1), some (.int v2), some (.int v3)] [.int x] h') : G X d 278 0 [some (.ref 84), some (.int v1), some (.int v2), some (.int v3)] [] h := by
  refine g_iload_n d_278_0 rfl rfl ?_
  exact g_callSI (mj := 276) [.int v1] [] d_278_1 wd_532 mo_276 mc_276 mv_276 rfl rfl (Nat.le_of_ble_eq_true rfl)  hdd hC kk

theorem k_278_4 {X : GX} {d : Nat} {h : Hp} {v1 : Int32} {v2 : Int32} {v3 : Int32} {s0 : Int32} (kt : s0 = 0 → G X d 278 19 [none, none, none, none] [] h) (kf : ¬ s0 = 0 → G X d 278 7 [some (.ref 84), some (.int v1), some (.int v2), some (.int v3)] [] h) : G X d 278 4 [some (.ref 84), some (.int v1), some (.int v2), some (.int v3)] [.int s0] h := by
  exact g_if_eq (tgt := 19) d_278_4 (by decide) (fun q => g_mask [false, false, false, false] (kt q)) kf

theorem k_278_7 {X : GX} {d : Nat} {h : Hp} {v1 : Int32} {v2 : Int32} {v3 : Int32} {d' : Nat} {Q' : Int32 → Hp → Prop} (hdd : d' < d) (hC : CI d' 177 [.long (Int32.toInt64 v2), .long 0, .long 4] h Q') (kk : ∀ x h', Q' x h' → G X d 278 16 [some (.ref 84), some (.int v1), some (.int v2), some (.int v3)] [.int x] h') : G X d 278 7 [some (.ref 84), some (.int v1), some (.int v2), some (.int v3)] [] h := by
  refine g_iload_n d_278_7 rfl rfl ?_
  refine g_i2l d_278_8 ?_
  refine g_lconst (v := 0) d_278_9 (by decide) ?_
  refine g_ldc2_w (v := 4) d_278_10 wd_498 ?_
  exact g_callSI (mj := 177) [.long (Int32.toInt64 v2), .long 0, .long 4] [] d_278_13 wd_395 mo_177 mc_177 mv_177 rfl rfl (Nat.le_of_ble_eq_true rfl)  hdd hC kk

theorem k_278_16 {X : GX} {d : Nat} {h : Hp} {v1 : Int32} {v2 : Int32} {v3 : Int32} {s0 : Int32} (kt : ¬ s0 = 0 → G X d 278 21 [some (.ref 84), some (.int v1), some (.int v2), some (.int v3)] [] h) (kf : s0 = 0 → G X d 278 19 [none, none, none, none] [] h) : G X d 278 16 [some (.ref 84), some (.int v1), some (.int v2), some (.int v3)] [.int s0] h := by
  exact g_if_ne (tgt := 21) d_278_16 (by decide) kt (fun q => g_mask [false, false, false, false] (kf q))

theorem k_278_19 {X : GX} {d : Nat} {h : Hp} (hq : RtX X (some (.int ((-1)))) h) : G X d 278 19 [none, none, none, none] [] h := by
  refine g_iconst (v := (-1)) d_278_19 (by decide) ?_
  exact g_reti d_278_20 rfl hq

theorem k_278_21 {X : GX} {d : Nat} {h : Hp} {v1 : Int32} {v2 : Int32} {v3 : Int32} (b0 : IA 94 v1) (kt : ¬ (h 94 (Int32.toNatClampNeg v1)) = 0 → G X d 278 33 [some (.ref 84), some (.int v1), some (.int v2), some (.int v3)] [] h) (kf : (h 94 (Int32.toNatClampNeg v1)) = 0 → G X d 278 30 [none, none, none, none] [] h) : G X d 278 21 [some (.ref 84), some (.int v1), some (.int v2), some (.int v3)] [] h := by
  refine g_aload_n d_278_21 rfl rfl ?_
  refine g_getf (ci := 9) (k := 28) d_278_22 wd_383 (Nat.le_of_ble_eq_true rfl) rfl rfl ?_
  refine g_iload_n d_278_25 rfl rfl ?_
  refine g_iald d_278_26 b0 ?_
  exact g_if_ne (tgt := 33) d_278_27 (by decide) kt (fun q => g_mask [false, false, false, false] (kf q))

theorem k_278_30 {X : GX} {d : Nat} {h : Hp} (hq : RtX X (some (.int ((-11)))) h) : G X d 278 30 [none, none, none, none] [] h := by
  refine g_bipush (v := (-11)) d_278_30 (by decide) ?_
  exact g_reti d_278_32 rfl hq

theorem k_278_33 {X : GX} {d : Nat} {h : Hp} {v1 : Int32} {v2 : Int32} {v3 : Int32} (b0 : IA 94 v1) (kt : (h 94 (Int32.toNatClampNeg v1)) = (v2 + 1) → G X d 278 48 [some (.ref 84), some (.int v1), none, some (.int v3)] [] h) (kf : ¬ (h 94 (Int32.toNatClampNeg v1)) = (v2 + 1) → G X d 278 45 [none, none, none, none] [] h) : G X d 278 33 [some (.ref 84), some (.int v1), some (.int v2), some (.int v3)] [] h := by
  refine g_aload_n d_278_33 rfl rfl ?_
  refine g_getf (ci := 9) (k := 28) d_278_34 wd_383 (Nat.le_of_ble_eq_true rfl) rfl rfl ?_
  refine g_iload_n d_278_37 rfl rfl ?_
  refine g_iald d_278_38 b0 ?_
  refine g_iload_n d_278_39 rfl rfl ?_
  refine g_iconst (v := 1) d_278_40 (by decide) ?_
  refine g_iadd d_278_41 ?_
  exact g_icmp_eq (tgt := 48) d_278_42 (by decide) (fun q => g_mask [true, true, false, true] (kt q)) (fun q => g_mask [false, false, false, false] (kf q))

theorem k_278_45 {X : GX} {d : Nat} {h : Hp} (hq : RtX X (some (.int ((-13)))) h) : G X d 278 45 [none, none, none, none] [] h := by
  refine g_bipush (v := (-13)) d_278_45 (by decide) ?_
  exact g_reti d_278_47 rfl hq

theorem k_278_48 {X : GX} {d : Nat} {h : Hp} {v1 : Int32} {v3 : Int32} {d' : Nat} {Q' : Int32 → Hp → Prop} (b0 : IA 95 v1) (hdd : d' < d) (hC : CI d' 177 [.long (Int32.toInt64 v3), .long 0, .long (Int32.toInt64 ((h 95 (Int32.toNatClampNeg v1)) - 1))] h Q') (kk : ∀ x h', Q' x h' → G X d 278 63 [some (.ref 84), some (.int v1), none, some (.int v3)] [.int x] h') : G X d 278 48 [some (.ref 84), some (.int v1), none, some (.int v3)] [] h := by
  refine g_iload_n d_278_48 rfl rfl ?_
  refine g_i2l d_278_49 ?_
  refine g_lconst (v := 0) d_278_50 (by decide) ?_
  refine g_aload_n d_278_51 rfl rfl ?_
  refine g_getf (ci := 9) (k := 29) d_278_52 wd_384 (Nat.le_of_ble_eq_true rfl) rfl rfl ?_
  refine g_iload_n d_278_55 rfl rfl ?_
  refine g_iald d_278_56 b0 ?_
  refine g_iconst (v := 1) d_278_57 (by decide) ?_
  refine g_isub d_278_58 ?_
  refine g_i2l d_278_59 ?_
  exact g_callSI (mj := 177) [.long (Int32.toInt64 v3), .long 0, .long (Int32.toInt64 ((h 95 (Int32.toNatClampNeg v1)) - 1))] [] d_278_60 wd_395 mo_177 mc_177 mv_177 rfl rfl (Nat.le_of_ble_eq_true rfl)  hdd hC kk

theorem k_278_63 {X : GX} {d : Nat} {h : Hp} {v1 : Int32} {v3 : Int32} {s0 : Int32} (kt : s0 = 0 → G X d 278 80 [none, none, none, none] [] h) (kf : ¬ s0 = 0 → G X d 278 66 [some (.ref 84), some (.int v1), none, some (.int v3)] [] h) : G X d 278 63 [some (.ref 84), some (.int v1), none, some (.int v3)] [.int s0] h := by
  exact g_if_eq (tgt := 80) d_278_63 (by decide) (fun q => g_mask [false, false, false, false] (kt q)) kf

theorem k_278_66 {X : GX} {d : Nat} {h : Hp} {v1 : Int32} {v3 : Int32} (b0 : IA 96 ((40 * v1) + v3)) (hq : RtX X (some (.int (h 96 (Int32.toNatClampNeg ((40 * v1) + v3))))) h) : G X d 278 66 [some (.ref 84), some (.int v1), none, some (.int v3)] [] h := by
  refine g_aload_n d_278_66 rfl rfl ?_
  refine g_getf (ci := 9) (k := 30) d_278_67 wd_385 (Nat.le_of_ble_eq_true rfl) rfl rfl ?_
  refine g_bipush (v := 40) d_278_70 (by decide) ?_
  refine g_iload_n d_278_72 rfl rfl ?_
  refine g_imul d_278_73 ?_
  refine g_iload_n d_278_74 rfl rfl ?_
  refine g_iadd d_278_75 ?_
  refine g_iald d_278_76 b0 ?_
  refine g_goto (tgt := 82) d_278_77 (by decide) ?_
  exact g_reti d_278_82 rfl hq

theorem k_278_80 {X : GX} {d : Nat} {h : Hp} (hq : RtX X (some (.int ((-12)))) h) : G X d 278 80 [none, none, none, none] [] h := by
  refine g_bipush (v := (-12)) d_278_80 (by decide) ?_
  exact g_reti d_278_82 rfl hq

/-! 279 PlayedTruthModel.goAll(III)I -/
theorem k_279_0 {X : GX} {d : Nat} {h : Hp} {v1 : Int32} {v2 : Int32} {v3 : Int32} {d' : Nat} {Q' : Int32 → Hp → Prop} (hdd : d' < d) (hC : CI d' 280 [.ref 84, .int v1, .int v3] h Q') (kk : ∀ x h', Q' x h' → G X d 279 6 [some (.ref 84), some (.int v1), some (.int v2), some (.int v3), none, none, none, none] [.int x] h') : G X d 279 0 [some (.ref 84), some (.int v1), some (.int v2), some (.int v3), none, none, none, none] [] h := by
  refine g_aload_n d_279_0 rfl rfl ?_
  refine g_iload_n d_279_1 rfl rfl ?_
  refine g_iload_n d_279_2 rfl rfl ?_
  exact g_callVI (mj := 280) 9 [.int v1, .int v3] [] d_279_3 wd_536 mo_280 mc_280 mv_280 rfl rfl rfl (Nat.le_of_ble_eq_true rfl) rfl hdd hC kk

theorem k_279_6 {X : GX} {d : Nat} {h : Hp} {v1 : Int32} {v2 : Int32} {v3 : Int32} {s0 : Int32} (kt : 0 ≤ s0 → G X d 279 16 [some (.ref 84), some (.int v1), some (.int v2), some (.int v3), none, none, none, none] [] h) (kf : ¬ 0 ≤ s0 → G X d 279 13 [none, none, none, none, some (.int s0), none, none, none] [] h) : G X d 279 6 [some (.ref 84), some (.int v1), some (.int v2), some (.int v3), none, none, none, none] [.int s0] h := by
  refine g_istore d_279_6 (Nat.le_of_ble_eq_true rfl) rfl ?_
  refine g_iload d_279_8 rfl ?_
  exact g_if_ge (tgt := 16) d_279_10 (by decide) (fun q => g_mask [true, true, true, true, false, false, false, false] (kt q)) (fun q => g_mask [false, false, false, false, true, false, false, false] (kf q))

theorem k_279_13 {X : GX} {d : Nat} {h : Hp} {v4 : Int32} (hq : RtX X (some (.int v4)) h) : G X d 279 13 [none, none, none, none, some (.int v4), none, none, none] [] h := by
  refine g_iload d_279_13 rfl ?_
  exact g_reti d_279_15 rfl hq

theorem k_279_16 {X : GX} {d : Nat} {h : Hp} {v1 : Int32} {v2 : Int32} {v3 : Int32} (kk : G X d 279 22 [some (.ref 84), some (.int v1), some (.int v2), some (.int v3), none, some (.int 0), some (.int 0), none] [] h) : G X d 279 16 [some (.ref 84), some (.int v1), some (.int v2), some (.int v3), none, none, none, none] [] h := by
  refine g_iconst (v := 0) d_279_16 (by decide) ?_
  refine g_istore d_279_17 (Nat.le_of_ble_eq_true rfl) rfl ?_
  refine g_iconst (v := 0) d_279_19 (by decide) ?_
  refine g_istore d_279_20 (Nat.le_of_ble_eq_true rfl) rfl ?_
  exact kk

theorem k_279_22 {X : GX} {d : Nat} {h : Hp} {v1 : Int32} {v2 : Int32} {v3 : Int32} {v5 : Int32} {v6 : Int32} (kt : v3 ≤ v6 → G X d 279 114 [none, none, none, none, none, some (.int v5), none, none] [] h) (kf : ¬ v3 ≤ v6 → G X d 279 28 [some (.ref 84), some (.int v1), some (.int v2), some (.int v3), none, some (.int v5), some (.int v6), none] [] h) : G X d 279 22 [some (.ref 84), some (.int v1), some (.int v2), some (.int v3), none, some (.int v5), some (.int v6), none] [] h := by
  refine g_iload d_279_22 rfl ?_
  refine g_iload_n d_279_24 rfl rfl ?_
  exact g_icmp_ge (tgt := 114) d_279_25 (by decide) (fun q => g_mask [false, false, false, false, false, true, false, false] (kt q)) kf

theorem k_279_28 {X : GX} {d : Nat} {h : Hp} {v1 : Int32} {v2 : Int32} {v3 : Int32} {v5 : Int32} {v6 : Int32} {d' : Nat} {Q' : Int32 → Hp → Prop} (b0 : IA 95 v1) (hdd : d' < d) (hC : CI d' 177 [.long ((Int32.toInt64 v2) + (Int32.toInt64 v6)), .long 0, .long (Int32.toInt64 ((h 95 (Int32.toNatClampNeg v1)) - 1))] h Q') (kk : ∀ x h', Q' x h' → G X d 279 47 [some (.ref 84), some (.int v1), some (.int v2), some (.int v3), none, some (.int v5), some (.int v6), none] [.int x] h') : G X d 279 28 [some (.ref 84), some (.int v1), some (.int v2), some (.int v3), none, some (.int v5), some (.int v6), none] [] h := by
  refine g_iload_n d_279_28 rfl rfl ?_
  refine g_i2l d_279_29 ?_
  refine g_iload d_279_30 rfl ?_
  refine g_i2l d_279_32 ?_
  refine g_ladd d_279_33 ?_
  refine g_lconst (v := 0) d_279_34 (by decide) ?_
  refine g_aload_n d_279_35 rfl rfl ?_
  refine g_getf (ci := 9) (k := 29) d_279_36 wd_384 (Nat.le_of_ble_eq_true rfl) rfl rfl ?_
  refine g_iload_n d_279_39 rfl rfl ?_
  refine g_iald d_279_40 b0 ?_
  refine g_iconst (v := 1) d_279_41 (by decide) ?_
  refine g_isub d_279_42 ?_
  refine g_i2l d_279_43 ?_
  exact g_callSI (mj := 177) [.long ((Int32.toInt64 v2) + (Int32.toInt64 v6)), .long 0, .long (Int32.toInt64 ((h 95 (Int32.toNatClampNeg v1)) - 1))] [] d_279_44 wd_395 mo_177 mc_177 mv_177 rfl rfl (Nat.le_of_ble_eq_true rfl)  hdd hC kk

theorem k_279_47 {X : GX} {d : Nat} {h : Hp} {v1 : Int32} {v2 : Int32} {v3 : Int32} {v5 : Int32} {v6 : Int32} {s0 : Int32} (kt : ¬ s0 = 0 → G X d 279 53 [some (.ref 84), some (.int v1), some (.int v2), some (.int v3), none, some (.int v5), some (.int v6), none] [] h) (kf : s0 = 0 → G X d 279 50 [none, none, none, none, none, none, none, none] [] h) : G X d 279 47 [some (.ref 84), some (.int v1), some (.int v2), some (.int v3), none, some (.int v5), some (.int v6), none] [.int s0] h := by
  exact g_if_ne (tgt := 53) d_279_47 (by decide) kt (fun q => g_mask [false, false, false, false, false, false, false, false] (kf q))

theorem k_279_50 {X : GX} {d : Nat} {h : Hp} (hq : RtX X (some (.int ((-12)))) h) : G X d 279 50 [none, none, none, none, none, none, none, none] [] h := by
  refine g_bipush (v := (-12)) d_279_50 (by decide) ?_
  exact g_reti d_279_52 rfl hq

theorem k_279_53 {X : GX} {d : Nat} {h : Hp} {v1 : Int32} {v2 : Int32} {v3 : Int32} {v5 : Int32} {v6 : Int32} {d' : Nat} {Q' : Int32 → Hp → Prop} (b0 : IA 96 (((40 * v1) + v2) + v6)) (b1 : IA 85 0) (hdd : d' < d) (hC : CI d' 177 [.long (Int32.toInt64 (h 96 (Int32.toNatClampNeg (((40 * v1) + v2) + v6)))), .long 0, .long (Int32.toInt64 (h 85 (Int32.toNatClampNeg 0)))] h Q') (kk : ∀ x h', Q' x h' → G X d 279 85 [some (.ref 84), some (.int v1), some (.int v2), some (.int v3), none, none, some (.int v6), some (.int (h 96 (Int32.toNatClampNeg (((40 * v1) + v2) + v6))))] [.int x, .int v5] h') : G X d 279 53 [some (.ref 84), some (.int v1), some (.int v2), some (.int v3), none, some (.int v5), some (.int v6), none] [] h := by
  refine g_aload_n d_279_53 rfl rfl ?_
  refine g_getf (ci := 9) (k := 30) d_279_54 wd_385 (Nat.le_of_ble_eq_true rfl) rfl rfl ?_
  refine g_bipush (v := 40) d_279_57 (by decide) ?_
  refine g_iload_n d_279_59 rfl rfl ?_
  refine g_imul d_279_60 ?_
  refine g_iload_n d_279_61 rfl rfl ?_
  refine g_iadd d_279_62 ?_
  refine g_iload d_279_63 rfl ?_
  refine g_iadd d_279_65 ?_
  refine g_iald d_279_66 b0 ?_
  refine g_istore d_279_67 (Nat.le_of_ble_eq_true rfl) rfl ?_
  refine g_iload d_279_69 rfl ?_
  refine g_iload d_279_71 rfl ?_
  refine g_i2l d_279_73 ?_
  refine g_lconst (v := 0) d_279_74 (by decide) ?_
  refine g_aload_n d_279_75 rfl rfl ?_
  refine g_getf (ci := 9) (k := 0) d_279_76 wd_355 (Nat.le_of_ble_eq_true rfl) rfl rfl ?_
  refine g_iconst (v := 0) d_279_79 (by decide) ?_
  refine g_iald d_279_80 b1 ?_
  refine g_i2l d_279_81 ?_
  exact g_callSI (mj := 177) [.long (Int32.toInt64 (h 96 (Int32.toNatClampNeg (((40 * v1) + v2) + v6)))), .long 0, .long (Int32.toInt64 (h 85 (Int32.toNatClampNeg 0)))] [.int v5] d_279_82 wd_395 mo_177 mc_177 mv_177 rfl rfl (Nat.le_of_ble_eq_true rfl)  hdd hC (fun x h' q => g_mask [true, true, true, true, false, false, true, true] (kk x h' q))

theorem k_279_85 {X : GX} {d : Nat} {h : Hp} {v1 : Int32} {v2 : Int32} {v3 : Int32} {v6 : Int32} {v7 : Int32} {s0 : Int32} {s1 : Int32} (kt : s0 = 0 → G X d 279 104 [some (.ref 84), some (.int v1), some (.int v2), some (.int v3), none, none, some (.int v6), none] [.int s1] h) (kf : ¬ s0 = 0 → G X d 279 88 [some (.ref 84), some (.int v1), some (.int v2), some (.int v3), none, none, some (.int v6), some (.int v7)] [.int s1] h) : G X d 279 85 [some (.ref 84), some (.int v1), some (.int v2), some (.int v3), none, none, some (.int v6), some (.int v7)] [.int s0, .int s1] h := by
  exact g_if_eq (tgt := 104) d_279_85 (by decide) (fun q => g_mask [true, true, true, true, false, false, true, false] (kt q)) kf

theorem k_279_88 {X : GX} {d : Nat} {h : Hp} {v1 : Int32} {v2 : Int32} {v3 : Int32} {v6 : Int32} {v7 : Int32} {s0 : Int32} {d' : Nat} {Q' : Int32 → Hp → Prop} (hdd : d' < d) (hC : CI d' 205 [.ref 84] h Q') (kk : ∀ x h', Q' x h' → G X d 279 92 [some (.ref 84), some (.int v1), some (.int v2), some (.int v3), none, none, some (.int v6), some (.int v7)] [.int x, .int s0] h') : G X d 279 88 [some (.ref 84), some (.int v1), some (.int v2), some (.int v3), none, none, some (.int v6), some (.int v7)] [.int s0] h := by
  refine g_aload_n d_279_88 rfl rfl ?_
  exact g_callVI (mj := 205) 9 [] [.int s0] d_279_89 wd_427 mo_205 mc_205 mv_205 rfl rfl rfl (Nat.le_of_ble_eq_true rfl) rfl hdd hC kk

theorem k_279_92 {X : GX} {d : Nat} {h : Hp} {v1 : Int32} {v2 : Int32} {v3 : Int32} {v6 : Int32} {v7 : Int32} {s0 : Int32} {s1 : Int32} (kt : ¬ s0 = 0 → G X d 279 104 [some (.ref 84), some (.int v1), some (.int v2), some (.int v3), none, none, some (.int v6), none] [.int s1] h) (kf : s0 = 0 → G X d 279 95 [some (.ref 84), some (.int v1), some (.int v2), some (.int v3), none, none, some (.int v6), some (.int v7)] [.int s1] h) : G X d 279 92 [some (.ref 84), some (.int v1), some (.int v2), some (.int v3), none, none, some (.int v6), some (.int v7)] [.int s0, .int s1] h := by
  exact g_if_ne (tgt := 104) d_279_92 (by decide) (fun q => g_mask [true, true, true, true, false, false, true, false] (kt q)) kf

theorem k_279_95 {X : GX} {d : Nat} {h : Hp} {v1 : Int32} {v2 : Int32} {v3 : Int32} {v6 : Int32} {v7 : Int32} {s0 : Int32} {d' : Nat} {Q' : Int32 → Hp → Prop} (hdd : d' < d) (hC : CI d' 226 [.ref 84, .int v7] h Q') (kk : ∀ x h', Q' x h' → G X d 279 101 [some (.ref 84), some (.int v1), some (.int v2), some (.int v3), none, none, some (.int v6), none] [.int x, .int s0] h') : G X d 279 95 [some (.ref 84), some (.int v1), some (.int v2), some (.int v3), none, none, some (.int v6), some (.int v7)] [.int s0] h := by
  refine g_aload_n d_279_95 rfl rfl ?_
  refine g_iload d_279_96 rfl ?_
  exact g_callVI (mj := 226) 9 [.int v7] [.int s0] d_279_98 wd_474 mo_226 mc_226 mv_226 rfl rfl rfl (Nat.le_of_ble_eq_true rfl) rfl hdd hC (fun x h' q => g_mask [true, true, true, true, false, false, true, false] (kk x h' q))

theorem k_279_101 {X : GX} {d : Nat} {h : Hp} {v1 : Int32} {v2 : Int32} {v3 : Int32} {v6 : Int32} {s0 : Int32} {s1 : Int32} (kk : G X d 279 22 [some (.ref 84), some (.int v1), some (.int v2), some (.int v3), none, some (.int (s1 + s0)), some (.int (v6 + 1)), none] [] h) : G X d 279 101 [some (.ref 84), some (.int v1), some (.int v2), some (.int v3), none, none, some (.int v6), none] [.int s0, .int s1] h := by
  refine g_goto (tgt := 105) d_279_101 (by decide) ?_
  refine g_iadd d_279_105 ?_
  refine g_istore d_279_106 (Nat.le_of_ble_eq_true rfl) rfl ?_
  refine g_iinc (w := 1) d_279_108 rfl (by decide) (Nat.le_of_ble_eq_true rfl) rfl ?_
  refine g_goto (tgt := 22) d_279_111 (by decide) ?_
  exact kk

theorem k_279_104 {X : GX} {d : Nat} {h : Hp} {v1 : Int32} {v2 : Int32} {v3 : Int32} {v6 : Int32} {s0 : Int32} (kk : G X d 279 22 [some (.ref 84), some (.int v1), some (.int v2), some (.int v3), none, some (.int (s0 + 0)), some (.int (v6 + 1)), none] [] h) : G X d 279 104 [some (.ref 84), some (.int v1), some (.int v2), some (.int v3), none, none, some (.int v6), none] [.int s0] h := by
  refine g_iconst (v := 0) d_279_104 (by decide) ?_
  refine g_iadd d_279_105 ?_
  refine g_istore d_279_106 (Nat.le_of_ble_eq_true rfl) rfl ?_
  refine g_iinc (w := 1) d_279_108 rfl (by decide) (Nat.le_of_ble_eq_true rfl) rfl ?_
  refine g_goto (tgt := 22) d_279_111 (by decide) ?_
  exact kk

theorem k_279_114 {X : GX} {d : Nat} {h : Hp} {v5 : Int32} (hq : RtX X (some (.int v5)) h) : G X d 279 114 [none, none, none, none, none, some (.int v5), none, none] [] h := by
  refine g_iload d_279_114 rfl ?_
  exact g_reti d_279_116 rfl hq

/-! 280 PlayedTruthModel.whyNoBytes(II)I -/
theorem k_280_0 {X : GX} {d : Nat} {h : Hp} {v1 : Int32} {v2 : Int32} {d' : Nat} {Q' : Int32 → Hp → Prop} (hdd : d' < d) (hC : CI d' 276 [.int v1] h Q') (kk : ∀ x h', Q' x h' → G X d 280 4 [some (.ref 84), some (.int v1), some (.int v2)] [.int x] h') : G X d 280 0 [some (.ref 84), some (.int v1), some (.int v2)] [] h := by
  refine g_iload_n d_280_0 rfl rfl ?_
  exact g_callSI (mj := 276) [.int v1] [] d_280_1 wd_532 mo_276 mc_276 mv_276 rfl rfl (Nat.le_of_ble_eq_true rfl)  hdd hC kk

theorem k_280_4 {X : GX} {d : Nat} {h : Hp} {v1 : Int32} {v2 : Int32} {s0 : Int32} (kt : s0 = 0 → G X d 280 19 [none, none, none] [] h) (kf : ¬ s0 = 0 → G X d 280 7 [some (.ref 84), some (.int v1), some (.int v2)] [] h) : G X d 280 4 [some (.ref 84), some (.int v1), some (.int v2)] [.int s0] h := by
  exact g_if_eq (tgt := 19) d_280_4 (by decide) (fun q => g_mask [false, false, false] (kt q)) kf

theorem k_280_7 {X : GX} {d : Nat} {h : Hp} {v1 : Int32} {v2 : Int32} {d' : Nat} {Q' : Int32 → Hp → Prop} (hdd : d' < d) (hC : CI d' 177 [.long (Int32.toInt64 v2), .long 0, .long 20] h Q') (kk : ∀ x h', Q' x h' → G X d 280 16 [some (.ref 84), some (.int v1), none] [.int x] h') : G X d 280 7 [some (.ref 84), some (.int v1), some (.int v2)] [] h := by
  refine g_iload_n d_280_7 rfl rfl ?_
  refine g_i2l d_280_8 ?_
  refine g_lconst (v := 0) d_280_9 (by decide) ?_
  refine g_ldc2_w (v := 20) d_280_10 wd_537 ?_
  exact g_callSI (mj := 177) [.long (Int32.toInt64 v2), .long 0, .long 20] [] d_280_13 wd_395 mo_177 mc_177 mv_177 rfl rfl (Nat.le_of_ble_eq_true rfl)  hdd hC (fun x h' q => g_mask [true, true, false] (kk x h' q))

theorem k_280_16 {X : GX} {d : Nat} {h : Hp} {v1 : Int32} {s0 : Int32} (kt : ¬ s0 = 0 → G X d 280 21 [some (.ref 84), some (.int v1), none] [] h) (kf : s0 = 0 → G X d 280 19 [none, none, none] [] h) : G X d 280 16 [some (.ref 84), some (.int v1), none] [.int s0] h := by
  exact g_if_ne (tgt := 21) d_280_16 (by decide) kt (fun q => g_mask [false, false, false] (kf q))

theorem k_280_19 {X : GX} {d : Nat} {h : Hp} (hq : RtX X (some (.int ((-1)))) h) : G X d 280 19 [none, none, none] [] h := by
  refine g_iconst (v := (-1)) d_280_19 (by decide) ?_
  exact g_reti d_280_20 rfl hq

theorem k_280_21 {X : GX} {d : Nat} {h : Hp} {v1 : Int32} (b0 : IA 94 v1) (kt : ¬ (h 94 (Int32.toNatClampNeg v1)) = 0 → G X d 280 35 [some (.ref 84), some (.int v1), none] [] h) (kf : (h 94 (Int32.toNatClampNeg v1)) = 0 → G X d 280 30 [none, none, none] [] h) : G X d 280 21 [some (.ref 84), some (.int v1), none] [] h := by
  refine g_aload_n d_280_21 rfl rfl ?_
  refine g_getf (ci := 9) (k := 28) d_280_22 wd_383 (Nat.le_of_ble_eq_true rfl) rfl rfl ?_
  refine g_iload_n d_280_25 rfl rfl ?_
  refine g_iald d_280_26 b0 ?_
  exact g_if_ne (tgt := 35) d_280_27 (by decide) kt (fun q => g_mask [false, false, false] (kf q))

theorem k_280_30 {X : GX} {d : Nat} {h : Hp} (hq : RtX X (some (.int ((-11)))) h) : G X d 280 30 [none, none, none] [] h := by
  refine g_bipush (v := (-11)) d_280_30 (by decide) ?_
  refine g_goto (tgt := 51) d_280_32 (by decide) ?_
  exact g_reti d_280_51 rfl hq

theorem k_280_35 {X : GX} {d : Nat} {h : Hp} {v1 : Int32} (b0 : IA 94 v1) (kt : (h 94 (Int32.toNatClampNeg v1)) = 1 → G X d 280 50 [none, none, none] [] h) (kf : ¬ (h 94 (Int32.toNatClampNeg v1)) = 1 → G X d 280 45 [none, none, none] [] h) : G X d 280 35 [some (.ref 84), some (.int v1), none] [] h := by
  refine g_aload_n d_280_35 rfl rfl ?_
  refine g_getf (ci := 9) (k := 28) d_280_36 wd_383 (Nat.le_of_ble_eq_true rfl) rfl rfl ?_
  refine g_iload_n d_280_39 rfl rfl ?_
  refine g_iald d_280_40 b0 ?_
  refine g_iconst (v := 1) d_280_41 (by decide) ?_
  exact g_icmp_eq (tgt := 50) d_280_42 (by decide) (fun q => g_mask [false, false, false] (kt q)) (fun q => g_mask [false, false, false] (kf q))

theorem k_280_45 {X : GX} {d : Nat} {h : Hp} (hq : RtX X (some (.int ((-13)))) h) : G X d 280 45 [none, none, none] [] h := by
  refine g_bipush (v := (-13)) d_280_45 (by decide) ?_
  refine g_goto (tgt := 51) d_280_47 (by decide) ?_
  exact g_reti d_280_51 rfl hq

theorem k_280_50 {X : GX} {d : Nat} {h : Hp} (hq : RtX X (some (.int 0)) h) : G X d 280 50 [none, none, none] [] h := by
  refine g_iconst (v := 0) d_280_50 (by decide) ?_
  exact g_reti d_280_51 rfl hq

/-! 281 PlayedTruthModel.wouldBe(III)I -/
theorem k_281_0 {X : GX} {d : Nat} {h : Hp} {v1 : Int32} {v2 : Int32} {v3 : Int32} {d' : Nat} {Q' : Int32 → Hp → Prop} (hdd : d' < d) (hC : CI d' 280 [.ref 84, .int v1, .int v3] h Q') (kk : ∀ x h', Q' x h' → G X d 281 6 [some (.ref 84), some (.int v1), some (.int v2), some (.int v3), none, none, none] [.int x] h') : G X d 281 0 [some (.ref 84), some (.int v1), some (.int v2), some (.int v3), none, none, none] [] h := by
  refine g_aload_n d_281_0 rfl rfl ?_
  refine g_iload_n d_281_1 rfl rfl ?_
  refine g_iload_n d_281_2 rfl rfl ?_
  exact g_callVI (mj := 280) 9 [.int v1, .int v3] [] d_281_3 wd_536 mo_280 mc_280 mv_280 rfl rfl rfl (Nat.le_of_ble_eq_true rfl) rfl hdd hC kk

theorem k_281_6 {X : GX} {d : Nat} {h : Hp} {v1 : Int32} {v2 : Int32} {v3 : Int32} {s0 : Int32} (kt : 0 ≤ s0 → G X d 281 16 [some (.ref 84), some (.int v1), some (.int v2), some (.int v3), none, none, none] [] h) (kf : ¬ 0 ≤ s0 → G X d 281 13 [none, none, none, none, some (.int s0), none, none] [] h) : G X d 281 6 [some (.ref 84), some (.int v1), some (.int v2), some (.int v3), none, none, none] [.int s0] h := by
  refine g_istore d_281_6 (Nat.le_of_ble_eq_true rfl) rfl ?_
  refine g_iload d_281_8 rfl ?_
  exact g_if_ge (tgt := 16) d_281_10 (by decide) (fun q => g_mask [true, true, true, true, false, false, false] (kt q)) (fun q => g_mask [false, false, false, false, true, false, false] (kf q))

theorem k_281_13 {X : GX} {d : Nat} {h : Hp} {v4 : Int32} (hq : RtX X (some (.int v4)) h) : G X d 281 13 [none, none, none, none, some (.int v4), none, none] [] h := by
  refine g_iload d_281_13 rfl ?_
  exact g_reti d_281_15 rfl hq

theorem k_281_16 {X : GX} {d : Nat} {h : Hp} {v1 : Int32} {v2 : Int32} {v3 : Int32} {d' : Nat} {Q' : Hp → Prop} (hdd : d' < d) (hC : CV d' 229 [.ref 84] h Q') (kk : ∀ h', Q' h' → G X d 281 23 [some (.ref 84), some (.int v1), some (.int v2), some (.int v3), none, some (.int 0), none] [] h') : G X d 281 16 [some (.ref 84), some (.int v1), some (.int v2), some (.int v3), none, none, none] [] h := by
  refine g_iconst (v := 0) d_281_16 (by decide) ?_
  refine g_istore d_281_17 (Nat.le_of_ble_eq_true rfl) rfl ?_
  refine g_aload_n d_281_19 rfl rfl ?_
  exact g_callVV (mj := 229) 9 [] [] d_281_20 wd_477 mo_229 mc_229 mv_229 rfl rfl rfl (Nat.le_of_ble_eq_true rfl) rfl hdd hC kk

theorem k_281_23 {X : GX} {d : Nat} {h : Hp} {v1 : Int32} {v2 : Int32} {v3 : Int32} {v5 : Int32} (kk : G X d 281 26 [some (.ref 84), some (.int v1), some (.int v2), some (.int v3), none, some (.int v5), some (.int 0)] [] h) : G X d 281 23 [some (.ref 84), some (.int v1), some (.int v2), some (.int v3), none, some (.int v5), none] [] h := by
  refine g_iconst (v := 0) d_281_23 (by decide) ?_
  refine g_istore d_281_24 (Nat.le_of_ble_eq_true rfl) rfl ?_
  exact kk

theorem k_281_26 {X : GX} {d : Nat} {h : Hp} {v1 : Int32} {v2 : Int32} {v3 : Int32} {v5 : Int32} {v6 : Int32} (kt : v3 ≤ v6 → G X d 281 138 [some (.ref 84), none, none, none, none, some (.int v5), none] [] h) (kf : ¬ v3 ≤ v6 → G X d 281 32 [some (.ref 84), some (.int v1), some (.int v2), some (.int v3), none, some (.int v5), some (.int v6)] [] h) : G X d 281 26 [some (.ref 84), some (.int v1), some (.int v2), some (.int v3), none, some (.int v5), some (.int v6)] [] h := by
  refine g_iload d_281_26 rfl ?_
  refine g_iload_n d_281_28 rfl rfl ?_
  exact g_icmp_ge (tgt := 138) d_281_29 (by decide) (fun q => g_mask [true, false, false, false, false, true, false] (kt q)) kf

theorem k_281_32 {X : GX} {d : Nat} {h : Hp} {v1 : Int32} {v2 : Int32} {v3 : Int32} {v5 : Int32} {v6 : Int32} (kt : v5 < 0 → G X d 281 138 [some (.ref 84), none, none, none, none, some (.int v5), none] [] h) (kf : ¬ v5 < 0 → G X d 281 37 [some (.ref 84), some (.int v1), some (.int v2), some (.int v3), none, some (.int v5), some (.int v6)] [] h) : G X d 281 32 [some (.ref 84), some (.int v1), some (.int v2), some (.int v3), none, some (.int v5), some (.int v6)] [] h := by
  refine g_iload d_281_32 rfl ?_
  exact g_if_lt (tgt := 138) d_281_34 (by decide) (fun q => g_mask [true, false, false, false, false, true, false] (kt q)) kf

theorem k_281_37 {X : GX} {d : Nat} {h : Hp} {v1 : Int32} {v2 : Int32} {v3 : Int32} {v5 : Int32} {v6 : Int32} {d' : Nat} {Q' : Int32 → Hp → Prop} (b0 : IA 95 v1) (hdd : d' < d) (hC : CI d' 177 [.long ((Int32.toInt64 v2) + (Int32.toInt64 v6)), .long 0, .long (Int32.toInt64 ((h 95 (Int32.toNatClampNeg v1)) - 1))] h Q') (kk : ∀ x h', Q' x h' → G X d 281 56 [some (.ref 84), some (.int v1), some (.int v2), some (.int v3), none, some (.int v5), some (.int v6)] [.int x] h') : G X d 281 37 [some (.ref 84), some (.int v1), some (.int v2), some (.int v3), none, some (.int v5), some (.int v6)] [] h := by
  refine g_iload_n d_281_37 rfl rfl ?_
  refine g_i2l d_281_38 ?_
  refine g_iload d_281_39 rfl ?_
  refine g_i2l d_281_41 ?_
  refine g_ladd d_281_42 ?_
  refine g_lconst (v := 0) d_281_43 (by decide) ?_
  refine g_aload_n d_281_44 rfl rfl ?_
  refine g_getf (ci := 9) (k := 29) d_281_45 wd_384 (Nat.le_of_ble_eq_true rfl) rfl rfl ?_
  refine g_iload_n d_281_48 rfl rfl ?_
  refine g_iald d_281_49 b0 ?_
  refine g_iconst (v := 1) d_281_50 (by decide) ?_
  refine g_isub d_281_51 ?_
  refine g_i2l d_281_52 ?_
  exact g_callSI (mj := 177) [.long ((Int32.toInt64 v2) + (Int32.toInt64 v6)), .long 0, .long (Int32.toInt64 ((h 95 (Int32.toNatClampNeg v1)) - 1))] [] d_281_53 wd_395 mo_177 mc_177 mv_177 rfl rfl (Nat.le_of_ble_eq_true rfl)  hdd hC kk

theorem k_281_56 {X : GX} {d : Nat} {h : Hp} {v1 : Int32} {v2 : Int32} {v3 : Int32} {v5 : Int32} {v6 : Int32} {s0 : Int32} (kt : ¬ s0 = 0 → G X d 281 66 [some (.ref 84), some (.int v1), some (.int v2), some (.int v3), none, some (.int v5), some (.int v6)] [] h) (kf : s0 = 0 → G X d 281 59 [some (.ref 84), some (.int v1), some (.int v2), some (.int v3), none, none, some (.int v6)] [] h) : G X d 281 56 [some (.ref 84), some (.int v1), some (.int v2), some (.int v3), none, some (.int v5), some (.int v6)] [.int s0] h := by
  exact g_if_ne (tgt := 66) d_281_56 (by decide) kt (fun q => g_mask [true, true, true, true, false, false, true] (kf q))

theorem k_281_59 {X : GX} {d : Nat} {h : Hp} {v1 : Int32} {v2 : Int32} {v3 : Int32} {v6 : Int32} (kk : G X d 281 26 [some (.ref 84), some (.int v1), some (.int v2), some (.int v3), none, some (.int ((-12))), some (.int (v6 + 1))] [] h) : G X d 281 59 [some (.ref 84), some (.int v1), some (.int v2), some (.int v3), none, none, some (.int v6)] [] h := by
  refine g_bipush (v := (-12)) d_281_59 (by decide) ?_
  refine g_istore d_281_61 (Nat.le_of_ble_eq_true rfl) rfl ?_
  refine g_goto (tgt := 132) d_281_63 (by decide) ?_
  refine g_iinc (w := 1) d_281_132 rfl (by decide) (Nat.le_of_ble_eq_true rfl) rfl ?_
  refine g_goto (tgt := 26) d_281_135 (by decide) ?_
  exact kk

theorem k_281_66 {X : GX} {d : Nat} {h : Hp} {v1 : Int32} {v2 : Int32} {v3 : Int32} {v5 : Int32} {v6 : Int32} {d' : Nat} {Q' : Int32 → Hp → Prop} (b0 : IA 96 (((40 * v1) + v2) + v6)) (b1 : IA 85 0) (hdd : d' < d) (hC : CI d' 177 [.long (Int32.toInt64 (h 96 (Int32.toNatClampNeg (((40 * v1) + v2) + v6)))), .long 0, .long (Int32.toInt64 (h 85 (Int32.toNatClampNeg 0)))] h Q') (kk : ∀ x h', Q' x h' → G X d 281 92 [some (.ref 84), some (.int v1), some (.int v2), some (.int v3), none, some (.int v5), some (.int v6)] [.int x] h') : G X d 281 66 [some (.ref 84), some (.int v1), some (.int v2), some (.int v3), none, some (.int v5), some (.int v6)] [] h := by
  refine g_aload_n d_281_66 rfl rfl ?_
  refine g_getf (ci := 9) (k := 30) d_281_67 wd_385 (Nat.le_of_ble_eq_true rfl) rfl rfl ?_
  refine g_bipush (v := 40) d_281_70 (by decide) ?_
  refine g_iload_n d_281_72 rfl rfl ?_
  refine g_imul d_281_73 ?_
  refine g_iload_n d_281_74 rfl rfl ?_
  refine g_iadd d_281_75 ?_
  refine g_iload d_281_76 rfl ?_
  refine g_iadd d_281_78 ?_
  refine g_iald d_281_79 b0 ?_
  refine g_i2l d_281_80 ?_
  refine g_lconst (v := 0) d_281_81 (by decide) ?_
  refine g_aload_n d_281_82 rfl rfl ?_
  refine g_getf (ci := 9) (k := 0) d_281_83 wd_355 (Nat.le_of_ble_eq_true rfl) rfl rfl ?_
  refine g_iconst (v := 0) d_281_86 (by decide) ?_
  refine g_iald d_281_87 b1 ?_
  refine g_i2l d_281_88 ?_
  exact g_callSI (mj := 177) [.long (Int32.toInt64 (h 96 (Int32.toNatClampNeg (((40 * v1) + v2) + v6)))), .long 0, .long (Int32.toInt64 (h 85 (Int32.toNatClampNeg 0)))] [] d_281_89 wd_395 mo_177 mc_177 mv_177 rfl rfl (Nat.le_of_ble_eq_true rfl)  hdd hC kk

theorem k_281_92 {X : GX} {d : Nat} {h : Hp} {v1 : Int32} {v2 : Int32} {v3 : Int32} {v5 : Int32} {v6 : Int32} {s0 : Int32} (kt : s0 = 0 → G X d 281 102 [some (.ref 84), some (.int v1), some (.int v2), some (.int v3), none, none, some (.int v6)] [] h) (kf : ¬ s0 = 0 → G X d 281 95 [some (.ref 84), some (.int v1), some (.int v2), some (.int v3), none, some (.int v5), some (.int v6)] [] h) : G X d 281 92 [some (.ref 84), some (.int v1), some (.int v2), some (.int v3), none, some (.int v5), some (.int v6)] [.int s0] h := by
  exact g_if_eq (tgt := 102) d_281_92 (by decide) (fun q => g_mask [true, true, true, true, false, false, true] (kt q)) kf

theorem k_281_95 {X : GX} {d : Nat} {h : Hp} {v1 : Int32} {v2 : Int32} {v3 : Int32} {v5 : Int32} {v6 : Int32} {d' : Nat} {Q' : Int32 → Hp → Prop} (hdd : d' < d) (hC : CI d' 205 [.ref 84] h Q') (kk : ∀ x h', Q' x h' → G X d 281 99 [some (.ref 84), some (.int v1), some (.int v2), some (.int v3), none, some (.int v5), some (.int v6)] [.int x] h') : G X d 281 95 [some (.ref 84), some (.int v1), some (.int v2), some (.int v3), none, some (.int v5), some (.int v6)] [] h := by
  refine g_aload_n d_281_95 rfl rfl ?_
  exact g_callVI (mj := 205) 9 [] [] d_281_96 wd_427 mo_205 mc_205 mv_205 rfl rfl rfl (Nat.le_of_ble_eq_true rfl) rfl hdd hC kk

theorem k_281_99 {X : GX} {d : Nat} {h : Hp} {v1 : Int32} {v2 : Int32} {v3 : Int32} {v5 : Int32} {v6 : Int32} {s0 : Int32} (kt : s0 = 0 → G X d 281 109 [some (.ref 84), some (.int v1), some (.int v2), some (.int v3), none, some (.int v5), some (.int v6)] [] h) (kf : ¬ s0 = 0 → G X d 281 102 [some (.ref 84), some (.int v1), some (.int v2), some (.int v3), none, none, some (.int v6)] [] h) : G X d 281 99 [some (.ref 84), some (.int v1), some (.int v2), some (.int v3), none, some (.int v5), some (.int v6)] [.int s0] h := by
  exact g_if_eq (tgt := 109) d_281_99 (by decide) kt (fun q => g_mask [true, true, true, true, false, false, true] (kf q))

theorem k_281_102 {X : GX} {d : Nat} {h : Hp} {v1 : Int32} {v2 : Int32} {v3 : Int32} {v6 : Int32} (kk : G X d 281 26 [some (.ref 84), some (.int v1), some (.int v2), some (.int v3), none, some (.int ((-4))), some (.int (v6 + 1))] [] h) : G X d 281 102 [some (.ref 84), some (.int v1), some (.int v2), some (.int v3), none, none, some (.int v6)] [] h := by
  refine g_bipush (v := (-4)) d_281_102 (by decide) ?_
  refine g_istore d_281_104 (Nat.le_of_ble_eq_true rfl) rfl ?_
  refine g_goto (tgt := 132) d_281_106 (by decide) ?_
  refine g_iinc (w := 1) d_281_132 rfl (by decide) (Nat.le_of_ble_eq_true rfl) rfl ?_
  refine g_goto (tgt := 26) d_281_135 (by decide) ?_
  exact kk

theorem k_281_109 {X : GX} {d : Nat} {h : Hp} {v1 : Int32} {v2 : Int32} {v3 : Int32} {v5 : Int32} {v6 : Int32} {d' : Nat} {Q' : Int32 → Hp → Prop} (b0 : IA 96 (((40 * v1) + v2) + v6)) (hdd : d' < d) (hC : CI d' 226 [.ref 84, .int (h 96 (Int32.toNatClampNeg (((40 * v1) + v2) + v6)))] h Q') (kk : ∀ x h', Q' x h' → G X d 281 129 [some (.ref 84), some (.int v1), some (.int v2), some (.int v3), none, none, some (.int v6)] [.int x, .int v5] h') : G X d 281 109 [some (.ref 84), some (.int v1), some (.int v2), some (.int v3), none, some (.int v5), some (.int v6)] [] h := by
  refine g_iload d_281_109 rfl ?_
  refine g_aload_n d_281_111 rfl rfl ?_
  refine g_aload_n d_281_112 rfl rfl ?_
  refine g_getf (ci := 9) (k := 30) d_281_113 wd_385 (Nat.le_of_ble_eq_true rfl) rfl rfl ?_
  refine g_bipush (v := 40) d_281_116 (by decide) ?_
  refine g_iload_n d_281_118 rfl rfl ?_
  refine g_imul d_281_119 ?_
  refine g_iload_n d_281_120 rfl rfl ?_
  refine g_iadd d_281_121 ?_
  refine g_iload d_281_122 rfl ?_
  refine g_iadd d_281_124 ?_
  refine g_iald d_281_125 b0 ?_
  exact g_callVI (mj := 226) 9 [.int (h 96 (Int32.toNatClampNeg (((40 * v1) + v2) + v6)))] [.int v5] d_281_126 wd_474 mo_226 mc_226 mv_226 rfl rfl rfl (Nat.le_of_ble_eq_true rfl) rfl hdd hC (fun x h' q => g_mask [true, true, true, true, false, false, true] (kk x h' q))

theorem k_281_129 {X : GX} {d : Nat} {h : Hp} {v1 : Int32} {v2 : Int32} {v3 : Int32} {v6 : Int32} {s0 : Int32} {s1 : Int32} (kk : G X d 281 26 [some (.ref 84), some (.int v1), some (.int v2), some (.int v3), none, some (.int (s1 + s0)), some (.int (v6 + 1))] [] h) : G X d 281 129 [some (.ref 84), some (.int v1), some (.int v2), some (.int v3), none, none, some (.int v6)] [.int s0, .int s1] h := by
  refine g_iadd d_281_129 ?_
  refine g_istore d_281_130 (Nat.le_of_ble_eq_true rfl) rfl ?_
  refine g_iinc (w := 1) d_281_132 rfl (by decide) (Nat.le_of_ble_eq_true rfl) rfl ?_
  refine g_goto (tgt := 26) d_281_135 (by decide) ?_
  exact kk

theorem k_281_138 {X : GX} {d : Nat} {h : Hp} {v5 : Int32} {d' : Nat} {Q' : Hp → Prop} (hdd : d' < d) (hC : CV d' 231 [.ref 84] h Q') (kk : ∀ h', Q' h' → G X d 281 142 [none, none, none, none, none, some (.int v5), none] [] h') : G X d 281 138 [some (.ref 84), none, none, none, none, some (.int v5), none] [] h := by
  refine g_aload_n d_281_138 rfl rfl ?_
  exact g_callVV (mj := 231) 9 [] [] d_281_139 wd_479 mo_231 mc_231 mv_231 rfl rfl rfl (Nat.le_of_ble_eq_true rfl) rfl hdd hC (fun h' q => g_mask [false, false, false, false, false, true, false] (kk h' q))

theorem k_281_142 {X : GX} {d : Nat} {h : Hp} {v5 : Int32} (hq : RtX X (some (.int v5)) h) : G X d 281 142 [none, none, none, none, none, some (.int v5), none] [] h := by
  refine g_iload d_281_142 rfl ?_
  exact g_reti d_281_144 rfl hq

/-! 282 PlayedTruthModel.shelf(III)I -/
theorem k_282_0 {X : GX} {d : Nat} {h : Hp} {v1 : Int32} {v2 : Int32} {v3 : Int32} (kt : ¬ v2 = 0 → G X d 282 12 [some (.ref 84), some (.int v1), some (.int v2), some (.int v3), none, none] [] h) (kf : v2 = 0 → G X d 282 4 [some (.ref 84), some (.int v1), some (.int v2), some (.int v3), none, none] [] h) : G X d 282 0 [some (.ref 84), some (.int v1), some (.int v2), some (.int v3), none, none] [] h := by
  refine g_iload_n d_282_0 rfl rfl ?_
  exact g_if_ne (tgt := 12) d_282_1 (by decide) kt kf

theorem k_282_4 {X : GX} {d : Nat} {h : Hp} {v1 : Int32} {v2 : Int32} {v3 : Int32} {d' : Nat} {Q' : Int32 → Hp → Prop} (hdd : d' < d) (hC : CI d' 180 [.ref 84, .int v3] h Q') (kk : ∀ x h', Q' x h' → G X d 282 9 [some (.ref 84), some (.int v1), some (.int v2), some (.int v3), none, none] [.int x] h') : G X d 282 4 [some (.ref 84), some (.int v1), some (.int v2), some (.int v3), none, none] [] h := by
  refine g_aload_n d_282_4 rfl rfl ?_
  refine g_iload_n d_282_5 rfl rfl ?_
  exact g_callVI (mj := 180) 9 [.int v3] [] d_282_6 wd_400 mo_180 mc_180 mv_180 rfl rfl rfl (Nat.le_of_ble_eq_true rfl) rfl hdd hC kk

theorem k_282_9 {X : GX} {d : Nat} {h : Hp} {v1 : Int32} {v2 : Int32} {v3 : Int32} {s0 : Int32} {d' : Nat} {Q' : Int32 → Hp → Prop} (hdd : d' < d) (hC : CI d' 177 [.long (Int32.toInt64 v1), .long 0, .long 3] h Q') (kk : ∀ x h', Q' x h' → G X d 282 45 [some (.ref 84), some (.int v1), some (.int v2), some (.int v3), some (.int s0), none] [.int x] h') : G X d 282 9 [some (.ref 84), some (.int v1), some (.int v2), some (.int v3), none, none] [.int s0] h := by
  refine g_goto (tgt := 34) d_282_9 (by decide) ?_
  refine g_istore d_282_34 (Nat.le_of_ble_eq_true rfl) rfl ?_
  refine g_iload_n d_282_36 rfl rfl ?_
  refine g_i2l d_282_37 ?_
  refine g_lconst (v := 0) d_282_38 (by decide) ?_
  refine g_ldc2_w (v := 3) d_282_39 wd_504 ?_
  exact g_callSI (mj := 177) [.long (Int32.toInt64 v1), .long 0, .long 3] [] d_282_42 wd_395 mo_177 mc_177 mv_177 rfl rfl (Nat.le_of_ble_eq_true rfl)  hdd hC kk

theorem k_282_12 {X : GX} {d : Nat} {h : Hp} {v1 : Int32} {v2 : Int32} {v3 : Int32} (kt : ¬ v2 = 1 → G X d 282 24 [some (.ref 84), some (.int v1), some (.int v2), some (.int v3), none, none] [] h) (kf : v2 = 1 → G X d 282 17 [some (.ref 84), some (.int v1), some (.int v2), some (.int v3), none, none] [] h) : G X d 282 12 [some (.ref 84), some (.int v1), some (.int v2), some (.int v3), none, none] [] h := by
  refine g_iload_n d_282_12 rfl rfl ?_
  refine g_iconst (v := 1) d_282_13 (by decide) ?_
  exact g_icmp_ne (tgt := 24) d_282_14 (by decide) kt kf

theorem k_282_17 {X : GX} {d : Nat} {h : Hp} {v1 : Int32} {v2 : Int32} {v3 : Int32} {d' : Nat} {Q' : Int32 → Hp → Prop} (hdd : d' < d) (hC : CI d' 276 [.int v3] h Q') (kk : ∀ x h', Q' x h' → G X d 282 21 [some (.ref 84), some (.int v1), some (.int v2), some (.int v3), none, none] [.int x] h') : G X d 282 17 [some (.ref 84), some (.int v1), some (.int v2), some (.int v3), none, none] [] h := by
  refine g_iload_n d_282_17 rfl rfl ?_
  exact g_callSI (mj := 276) [.int v3] [] d_282_18 wd_532 mo_276 mc_276 mv_276 rfl rfl (Nat.le_of_ble_eq_true rfl)  hdd hC kk

theorem k_282_21 {X : GX} {d : Nat} {h : Hp} {v1 : Int32} {v2 : Int32} {v3 : Int32} {s0 : Int32} {d' : Nat} {Q' : Int32 → Hp → Prop} (hdd : d' < d) (hC : CI d' 177 [.long (Int32.toInt64 v1), .long 0, .long 3] h Q') (kk : ∀ x h', Q' x h' → G X d 282 45 [some (.ref 84), some (.int v1), some (.int v2), some (.int v3), some (.int s0), none] [.int x] h') : G X d 282 21 [some (.ref 84), some (.int v1), some (.int v2), some (.int v3), none, none] [.int s0] h := by
  refine g_goto (tgt := 34) d_282_21 (by decide) ?_
  refine g_istore d_282_34 (Nat.le_of_ble_eq_true rfl) rfl ?_
  refine g_iload_n d_282_36 rfl rfl ?_
  refine g_i2l d_282_37 ?_
  refine g_lconst (v := 0) d_282_38 (by decide) ?_
  refine g_ldc2_w (v := 3) d_282_39 wd_504 ?_
  exact g_callSI (mj := 177) [.long (Int32.toInt64 v1), .long 0, .long 3] [] d_282_42 wd_395 mo_177 mc_177 mv_177 rfl rfl (Nat.le_of_ble_eq_true rfl)  hdd hC kk

theorem k_282_24 {X : GX} {d : Nat} {h : Hp} {v1 : Int32} {v2 : Int32} {v3 : Int32} (kt : ¬ v2 = 2 → G X d 282 33 [some (.ref 84), some (.int v1), some (.int v2), some (.int v3), none, none] [] h) (kf : v2 = 2 → G X d 282 29 [some (.ref 84), some (.int v1), some (.int v2), some (.int v3), none, none] [] h) : G X d 282 24 [some (.ref 84), some (.int v1), some (.int v2), some (.int v3), none, none] [] h := by
  refine g_iload_n d_282_24 rfl rfl ?_
  refine g_iconst (v := 2) d_282_25 (by decide) ?_
  exact g_icmp_ne (tgt := 33) d_282_26 (by decide) kt kf

theorem k_282_29 {X : GX} {d : Nat} {h : Hp} {v1 : Int32} {v2 : Int32} {v3 : Int32} {d' : Nat} {Q' : Int32 → Hp → Prop} (hdd : d' < d) (hC : CI d' 177 [.long (Int32.toInt64 v1), .long 0, .long 3] h Q') (kk : ∀ x h', Q' x h' → G X d 282 45 [some (.ref 84), some (.int v1), some (.int v2), some (.int v3), some (.int 1), none] [.int x] h') : G X d 282 29 [some (.ref 84), some (.int v1), some (.int v2), some (.int v3), none, none] [] h := by
  refine g_iconst (v := 1) d_282_29 (by decide) ?_
  refine g_goto (tgt := 34) d_282_30 (by decide) ?_
  refine g_istore d_282_34 (Nat.le_of_ble_eq_true rfl) rfl ?_
  refine g_iload_n d_282_36 rfl rfl ?_
  refine g_i2l d_282_37 ?_
  refine g_lconst (v := 0) d_282_38 (by decide) ?_
  refine g_ldc2_w (v := 3) d_282_39 wd_504 ?_
  exact g_callSI (mj := 177) [.long (Int32.toInt64 v1), .long 0, .long 3] [] d_282_42 wd_395 mo_177 mc_177 mv_177 rfl rfl (Nat.le_of_ble_eq_true rfl)  hdd hC kk

theorem k_282_33 {X : GX} {d : Nat} {h : Hp} {v1 : Int32} {v2 : Int32} {v3 : Int32} {d' : Nat} {Q' : Int32 → Hp → Prop} (hdd : d' < d) (hC : CI d' 177 [.long (Int32.toInt64 v1), .long 0, .long 3] h Q') (kk : ∀ x h', Q' x h' → G X d 282 45 [some (.ref 84), some (.int v1), some (.int v2), some (.int v3), some (.int 0), none] [.int x] h') : G X d 282 33 [some (.ref 84), some (.int v1), some (.int v2), some (.int v3), none, none] [] h := by
  refine g_iconst (v := 0) d_282_33 (by decide) ?_
  refine g_istore d_282_34 (Nat.le_of_ble_eq_true rfl) rfl ?_
  refine g_iload_n d_282_36 rfl rfl ?_
  refine g_i2l d_282_37 ?_
  refine g_lconst (v := 0) d_282_38 (by decide) ?_
  refine g_ldc2_w (v := 3) d_282_39 wd_504 ?_
  exact g_callSI (mj := 177) [.long (Int32.toInt64 v1), .long 0, .long 3] [] d_282_42 wd_395 mo_177 mc_177 mv_177 rfl rfl (Nat.le_of_ble_eq_true rfl)  hdd hC kk

theorem k_282_45 {X : GX} {d : Nat} {h : Hp} {v1 : Int32} {v2 : Int32} {v3 : Int32} {v4 : Int32} {s0 : Int32} (kt : s0 = 0 → G X d 282 53 [none, none, none, none, none, none] [] h) (kf : ¬ s0 = 0 → G X d 282 48 [some (.ref 84), some (.int v1), some (.int v2), some (.int v3), some (.int v4), none] [] h) : G X d 282 45 [some (.ref 84), some (.int v1), some (.int v2), some (.int v3), some (.int v4), none] [.int s0] h := by
  exact g_if_eq (tgt := 53) d_282_45 (by decide) (fun q => g_mask [false, false, false, false, false, false] (kt q)) kf

theorem k_282_48 {X : GX} {d : Nat} {h : Hp} {v1 : Int32} {v2 : Int32} {v3 : Int32} {v4 : Int32} (kt : ¬ v4 = 0 → G X d 282 55 [some (.ref 84), some (.int v1), some (.int v2), some (.int v3), none, none] [] h) (kf : v4 = 0 → G X d 282 53 [none, none, none, none, none, none] [] h) : G X d 282 48 [some (.ref 84), some (.int v1), some (.int v2), some (.int v3), some (.int v4), none] [] h := by
  refine g_iload d_282_48 rfl ?_
  exact g_if_ne (tgt := 55) d_282_50 (by decide) (fun q => g_mask [true, true, true, true, false, false] (kt q)) (fun q => g_mask [false, false, false, false, false, false] (kf q))

theorem k_282_53 {X : GX} {d : Nat} {h : Hp} (hq : RtX X (some (.int ((-1)))) h) : G X d 282 53 [none, none, none, none, none, none] [] h := by
  refine g_iconst (v := (-1)) d_282_53 (by decide) ?_
  exact g_reti d_282_54 rfl hq

theorem k_282_55 {X : GX} {d : Nat} {h : Hp} {v1 : Int32} {v2 : Int32} {v3 : Int32} (kt : ¬ v2 = 1 → G X d 282 73 [some (.ref 84), some (.int v1), some (.int v2), some (.int v3), none, none] [] h) (kf : v2 = 1 → G X d 282 60 [some (.ref 84), some (.int v1), some (.int v2), some (.int v3), none, none] [] h) : G X d 282 55 [some (.ref 84), some (.int v1), some (.int v2), some (.int v3), none, none] [] h := by
  refine g_iload_n d_282_55 rfl rfl ?_
  refine g_iconst (v := 1) d_282_56 (by decide) ?_
  exact g_icmp_ne (tgt := 73) d_282_57 (by decide) kt kf

theorem k_282_60 {X : GX} {d : Nat} {h : Hp} {v1 : Int32} {v2 : Int32} {v3 : Int32} (b0 : IA 94 v3) (kt : (h 94 (Int32.toNatClampNeg v3)) ≤ 0 → G X d 282 73 [some (.ref 84), some (.int v1), some (.int v2), some (.int v3), none, none] [] h) (kf : ¬ (h 94 (Int32.toNatClampNeg v3)) ≤ 0 → G X d 282 69 [some (.ref 84), some (.int v1), some (.int v2), some (.int v3), none, none] [] h) : G X d 282 60 [some (.ref 84), some (.int v1), some (.int v2), some (.int v3), none, none] [] h := by
  refine g_aload_n d_282_60 rfl rfl ?_
  refine g_getf (ci := 9) (k := 28) d_282_61 wd_383 (Nat.le_of_ble_eq_true rfl) rfl rfl ?_
  refine g_iload_n d_282_64 rfl rfl ?_
  refine g_iald d_282_65 b0 ?_
  exact g_if_le (tgt := 73) d_282_66 (by decide) kt kf

theorem k_282_69 {X : GX} {d : Nat} {h : Hp} {v1 : Int32} {v2 : Int32} {v3 : Int32} (kt : ¬ v2 = 0 → G X d 282 89 [some (.ref 84), some (.int v1), some (.int v2), some (.int v3), none, some (.int 1)] [.int v1, .ref 97] h) (kf : v2 = 0 → G X d 282 85 [some (.ref 84), some (.int v1), some (.int v2), some (.int v3), none, some (.int 1)] [.int v1, .ref 97] h) : G X d 282 69 [some (.ref 84), some (.int v1), some (.int v2), some (.int v3), none, none] [] h := by
  refine g_iconst (v := 1) d_282_69 (by decide) ?_
  refine g_goto (tgt := 74) d_282_70 (by decide) ?_
  refine g_istore d_282_74 (Nat.le_of_ble_eq_true rfl) rfl ?_
  refine g_aload_n d_282_76 rfl rfl ?_
  refine g_getf (ci := 9) (k := 31) d_282_77 wd_386 (Nat.le_of_ble_eq_true rfl) rfl rfl ?_
  refine g_iload_n d_282_80 rfl rfl ?_
  refine g_iload_n d_282_81 rfl rfl ?_
  exact g_if_ne (tgt := 89) d_282_82 (by decide) kt kf

theorem k_282_73 {X : GX} {d : Nat} {h : Hp} {v1 : Int32} {v2 : Int32} {v3 : Int32} (kt : ¬ v2 = 0 → G X d 282 89 [some (.ref 84), some (.int v1), some (.int v2), some (.int v3), none, some (.int 0)] [.int v1, .ref 97] h) (kf : v2 = 0 → G X d 282 85 [some (.ref 84), some (.int v1), some (.int v2), some (.int v3), none, some (.int 0)] [.int v1, .ref 97] h) : G X d 282 73 [some (.ref 84), some (.int v1), some (.int v2), some (.int v3), none, none] [] h := by
  refine g_iconst (v := 0) d_282_73 (by decide) ?_
  refine g_istore d_282_74 (Nat.le_of_ble_eq_true rfl) rfl ?_
  refine g_aload_n d_282_76 rfl rfl ?_
  refine g_getf (ci := 9) (k := 31) d_282_77 wd_386 (Nat.le_of_ble_eq_true rfl) rfl rfl ?_
  refine g_iload_n d_282_80 rfl rfl ?_
  refine g_iload_n d_282_81 rfl rfl ?_
  exact g_if_ne (tgt := 89) d_282_82 (by decide) kt kf

theorem k_282_85 {X : GX} {d : Nat} {h : Hp} {v1 : Int32} {v2 : Int32} {v3 : Int32} {v5 : Int32} {s0 : Int32} {s1 : Nat} (b0 : IA s1 s0) (kt : ¬ v2 = 0 → G X d 282 113 [some (.ref 84), some (.int v1), none, some (.int v3), none, some (.int v5)] [.int v1, .ref 98] (wr h s1 (Int32.toNatClampNeg s0) 1)) (kf : v2 = 0 → G X d 282 109 [some (.ref 84), some (.int v1), none, some (.int v3), none, some (.int v5)] [.int v1, .ref 98] (wr h s1 (Int32.toNatClampNeg s0) 1)) : G X d 282 85 [some (.ref 84), some (.int v1), some (.int v2), some (.int v3), none, some (.int v5)] [.int s0, .ref s1] h := by
  refine g_iconst (v := 1) d_282_85 (by decide) ?_
  refine g_goto (tgt := 99) d_282_86 (by decide) ?_
  refine g_iast d_282_99 b0 ?_
  refine g_aload_n d_282_100 rfl rfl ?_
  refine g_getf (ci := 9) (k := 32) d_282_101 wd_387 (Nat.le_of_ble_eq_true rfl) rfl rfl ?_
  refine g_iload_n d_282_104 rfl rfl ?_
  refine g_iload_n d_282_105 rfl rfl ?_
  exact g_if_ne (tgt := 113) d_282_106 (by decide) (fun q => g_mask [true, true, false, true, false, true] (kt q)) (fun q => g_mask [true, true, false, true, false, true] (kf q))

theorem k_282_89 {X : GX} {d : Nat} {h : Hp} {v1 : Int32} {v2 : Int32} {v3 : Int32} {v5 : Int32} {s0 : Int32} {s1 : Nat} (kt : v5 = 0 → G X d 282 98 [some (.ref 84), some (.int v1), some (.int v2), some (.int v3), none, some (.int v5)] [.int s0, .ref s1] h) (kf : ¬ v5 = 0 → G X d 282 94 [some (.ref 84), some (.int v1), some (.int v2), some (.int v3), none, some (.int v5)] [.int s0, .ref s1] h) : G X d 282 89 [some (.ref 84), some (.int v1), some (.int v2), some (.int v3), none, some (.int v5)] [.int s0, .ref s1] h := by
  refine g_iload d_282_89 rfl ?_
  exact g_if_eq (tgt := 98) d_282_91 (by decide) kt kf

theorem k_282_94 {X : GX} {d : Nat} {h : Hp} {v1 : Int32} {v2 : Int32} {v3 : Int32} {v5 : Int32} {s0 : Int32} {s1 : Nat} (b0 : IA s1 s0) (kt : ¬ v2 = 0 → G X d 282 113 [some (.ref 84), some (.int v1), none, some (.int v3), none, some (.int v5)] [.int v1, .ref 98] (wr h s1 (Int32.toNatClampNeg s0) 2)) (kf : v2 = 0 → G X d 282 109 [some (.ref 84), some (.int v1), none, some (.int v3), none, some (.int v5)] [.int v1, .ref 98] (wr h s1 (Int32.toNatClampNeg s0) 2)) : G X d 282 94 [some (.ref 84), some (.int v1), some (.int v2), some (.int v3), none, some (.int v5)] [.int s0, .ref s1] h := by
  refine g_iconst (v := 2) d_282_94 (by decide) ?_
  refine g_goto (tgt := 99) d_282_95 (by decide) ?_
  refine g_iast d_282_99 b0 ?_
  refine g_aload_n d_282_100 rfl rfl ?_
  refine g_getf (ci := 9) (k := 32) d_282_101 wd_387 (Nat.le_of_ble_eq_true rfl) rfl rfl ?_
  refine g_iload_n d_282_104 rfl rfl ?_
  refine g_iload_n d_282_105 rfl rfl ?_
  exact g_if_ne (tgt := 113) d_282_106 (by decide) (fun q => g_mask [true, true, false, true, false, true] (kt q)) (fun q => g_mask [true, true, false, true, false, true] (kf q))

theorem k_282_98 {X : GX} {d : Nat} {h : Hp} {v1 : Int32} {v2 : Int32} {v3 : Int32} {v5 : Int32} {s0 : Int32} {s1 : Nat} (b0 : IA s1 s0) (kt : ¬ v2 = 0 → G X d 282 113 [some (.ref 84), some (.int v1), none, some (.int v3), none, some (.int v5)] [.int v1, .ref 98] (wr h s1 (Int32.toNatClampNeg s0) 0)) (kf : v2 = 0 → G X d 282 109 [some (.ref 84), some (.int v1), none, some (.int v3), none, some (.int v5)] [.int v1, .ref 98] (wr h s1 (Int32.toNatClampNeg s0) 0)) : G X d 282 98 [some (.ref 84), some (.int v1), some (.int v2), some (.int v3), none, some (.int v5)] [.int s0, .ref s1] h := by
  refine g_iconst (v := 0) d_282_98 (by decide) ?_
  refine g_iast d_282_99 b0 ?_
  refine g_aload_n d_282_100 rfl rfl ?_
  refine g_getf (ci := 9) (k := 32) d_282_101 wd_387 (Nat.le_of_ble_eq_true rfl) rfl rfl ?_
  refine g_iload_n d_282_104 rfl rfl ?_
  refine g_iload_n d_282_105 rfl rfl ?_
  exact g_if_ne (tgt := 113) d_282_106 (by decide) (fun q => g_mask [true, true, false, true, false, true] (kt q)) (fun q => g_mask [true, true, false, true, false, true] (kf q))

theorem k_282_109 {X : GX} {d : Nat} {h : Hp} {v1 : Int32} {v3 : Int32} {v5 : Int32} {s0 : Int32} {s1 : Nat} (b0 : IA s1 s0) (kt : v5 = 0 → G X d 282 150 [none, none, none, none, none, none] [.int v1, .ref 99] (wr h s1 (Int32.toNatClampNeg s0) v3)) (kf : ¬ v5 = 0 → G X d 282 141 [some (.ref 84), none, none, some (.int v3), none, none] [.int v1, .ref 99] (wr h s1 (Int32.toNatClampNeg s0) v3)) : G X d 282 109 [some (.ref 84), some (.int v1), none, some (.int v3), none, some (.int v5)] [.int s0, .ref s1] h := by
  refine g_iload_n d_282_109 rfl rfl ?_
  refine g_goto (tgt := 130) d_282_110 (by decide) ?_
  refine g_iast d_282_130 b0 ?_
  refine g_aload_n d_282_131 rfl rfl ?_
  refine g_getf (ci := 9) (k := 33) d_282_132 wd_388 (Nat.le_of_ble_eq_true rfl) rfl rfl ?_
  refine g_iload_n d_282_135 rfl rfl ?_
  refine g_iload d_282_136 rfl ?_
  exact g_if_eq (tgt := 150) d_282_138 (by decide) (fun q => g_mask [false, false, false, false, false, false] (kt q)) (fun q => g_mask [true, false, false, true, false, false] (kf q))

theorem k_282_113 {X : GX} {d : Nat} {h : Hp} {v1 : Int32} {v3 : Int32} {v5 : Int32} {s0 : Int32} {s1 : Nat} (kt : v5 = 0 → G X d 282 129 [some (.ref 84), some (.int v1), none, some (.int v3), none, some (.int v5)] [.int s0, .ref s1] h) (kf : ¬ v5 = 0 → G X d 282 118 [some (.ref 84), some (.int v1), none, some (.int v3), none, some (.int v5)] [.int s0, .ref s1] h) : G X d 282 113 [some (.ref 84), some (.int v1), none, some (.int v3), none, some (.int v5)] [.int s0, .ref s1] h := by
  refine g_iload d_282_113 rfl ?_
  exact g_if_eq (tgt := 129) d_282_115 (by decide) kt kf

theorem k_282_118 {X : GX} {d : Nat} {h : Hp} {v1 : Int32} {v3 : Int32} {v5 : Int32} {s0 : Int32} {s1 : Nat} (b0 : IA 94 v3) (b1 : IA s1 s0) (kt : v5 = 0 → G X d 282 150 [none, none, none, none, none, none] [.int v1, .ref 99] (wr h s1 (Int32.toNatClampNeg s0) ((h 94 (Int32.toNatClampNeg v3)) - 1))) (kf : ¬ v5 = 0 → G X d 282 141 [some (.ref 84), none, none, some (.int v3), none, none] [.int v1, .ref 99] (wr h s1 (Int32.toNatClampNeg s0) ((h 94 (Int32.toNatClampNeg v3)) - 1))) : G X d 282 118 [some (.ref 84), some (.int v1), none, some (.int v3), none, some (.int v5)] [.int s0, .ref s1] h := by
  refine g_aload_n d_282_118 rfl rfl ?_
  refine g_getf (ci := 9) (k := 28) d_282_119 wd_383 (Nat.le_of_ble_eq_true rfl) rfl rfl ?_
  refine g_iload_n d_282_122 rfl rfl ?_
  refine g_iald d_282_123 b0 ?_
  refine g_iconst (v := 1) d_282_124 (by decide) ?_
  refine g_isub d_282_125 ?_
  refine g_goto (tgt := 130) d_282_126 (by decide) ?_
  refine g_iast d_282_130 b1 ?_
  refine g_aload_n d_282_131 rfl rfl ?_
  refine g_getf (ci := 9) (k := 33) d_282_132 wd_388 (Nat.le_of_ble_eq_true rfl) rfl rfl ?_
  refine g_iload_n d_282_135 rfl rfl ?_
  refine g_iload d_282_136 rfl ?_
  exact g_if_eq (tgt := 150) d_282_138 (by decide) (fun q => g_mask [false, false, false, false, false, false] (kt q)) (fun q => g_mask [true, false, false, true, false, false] (kf q))

theorem k_282_129 {X : GX} {d : Nat} {h : Hp} {v1 : Int32} {v3 : Int32} {v5 : Int32} {s0 : Int32} {s1 : Nat} (b0 : IA s1 s0) (kt : v5 = 0 → G X d 282 150 [none, none, none, none, none, none] [.int v1, .ref 99] (wr h s1 (Int32.toNatClampNeg s0) 0)) (kf : ¬ v5 = 0 → G X d 282 141 [some (.ref 84), none, none, some (.int v3), none, none] [.int v1, .ref 99] (wr h s1 (Int32.toNatClampNeg s0) 0)) : G X d 282 129 [some (.ref 84), some (.int v1), none, some (.int v3), none, some (.int v5)] [.int s0, .ref s1] h := by
  refine g_iconst (v := 0) d_282_129 (by decide) ?_
  refine g_iast d_282_130 b0 ?_
  refine g_aload_n d_282_131 rfl rfl ?_
  refine g_getf (ci := 9) (k := 33) d_282_132 wd_388 (Nat.le_of_ble_eq_true rfl) rfl rfl ?_
  refine g_iload_n d_282_135 rfl rfl ?_
  refine g_iload d_282_136 rfl ?_
  exact g_if_eq (tgt := 150) d_282_138 (by decide) (fun q => g_mask [false, false, false, false, false, false] (kt q)) (fun q => g_mask [true, false, false, true, false, false] (kf q))

theorem k_282_141 {X : GX} {d : Nat} {h : Hp} {v3 : Int32} {s0 : Int32} {s1 : Nat} (b0 : IA 95 v3) (b1 : IA s1 s0) (hq : RtX X (some (.int 1)) (wr h s1 (Int32.toNatClampNeg s0) (h 95 (Int32.toNatClampNeg v3)))) : G X d 282 141 [some (.ref 84), none, none, some (.int v3), none, none] [.int s0, .ref s1] h := by
  refine g_aload_n d_282_141 rfl rfl ?_
  refine g_getf (ci := 9) (k := 29) d_282_142 wd_384 (Nat.le_of_ble_eq_true rfl) rfl rfl ?_
  refine g_iload_n d_282_145 rfl rfl ?_
  refine g_iald d_282_146 b0 ?_
  refine g_goto (tgt := 151) d_282_147 (by decide) ?_
  refine g_iast d_282_151 b1 ?_
  refine g_iconst (v := 1) d_282_152 (by decide) ?_
  exact g_reti d_282_153 rfl hq

theorem k_282_150 {X : GX} {d : Nat} {h : Hp} {s0 : Int32} {s1 : Nat} (b0 : IA s1 s0) (hq : RtX X (some (.int 1)) (wr h s1 (Int32.toNatClampNeg s0) 0)) : G X d 282 150 [none, none, none, none, none, none] [.int s0, .ref s1] h := by
  refine g_iconst (v := 0) d_282_150 (by decide) ?_
  refine g_iast d_282_151 b0 ?_
  refine g_iconst (v := 1) d_282_152 (by decide) ?_
  exact g_reti d_282_153 rfl hq

/-! 283 PlayedTruthModel.taken(II)I -/
theorem k_283_0 {X : GX} {d : Nat} {h : Hp} {v1 : Int32} {v2 : Int32} {d' : Nat} {Q' : Int32 → Hp → Prop} (hdd : d' < d) (hC : CI d' 177 [.long (Int32.toInt64 v1), .long 0, .long 3] h Q') (kk : ∀ x h', Q' x h' → G X d 283 9 [some (.ref 84), some (.int v1), some (.int v2), none] [.int x] h') : G X d 283 0 [some (.ref 84), some (.int v1), some (.int v2), none] [] h := by
  refine g_iload_n d_283_0 rfl rfl ?_
  refine g_i2l d_283_1 ?_
  refine g_lconst (v := 0) d_283_2 (by decide) ?_
  refine g_ldc2_w (v := 3) d_283_3 wd_504 ?_
  exact g_callSI (mj := 177) [.long (Int32.toInt64 v1), .long 0, .long 3] [] d_283_6 wd_395 mo_177 mc_177 mv_177 rfl rfl (Nat.le_of_ble_eq_true rfl)  hdd hC kk

theorem k_283_9 {X : GX} {d : Nat} {h : Hp} {v1 : Int32} {v2 : Int32} {s0 : Int32} (kt : s0 = 0 → G X d 283 38 [none, none, none, none] [] h) (kf : ¬ s0 = 0 → G X d 283 12 [some (.ref 84), some (.int v1), some (.int v2), none] [] h) : G X d 283 9 [some (.ref 84), some (.int v1), some (.int v2), none] [.int s0] h := by
  exact g_if_eq (tgt := 38) d_283_9 (by decide) (fun q => g_mask [false, false, false, false] (kt q)) kf

theorem k_283_12 {X : GX} {d : Nat} {h : Hp} {v1 : Int32} {v2 : Int32} {d' : Nat} {Q' : Int32 → Hp → Prop} (hdd : d' < d) (hC : CI d' 177 [.long (Int32.toInt64 v2), .long 0, .long 5] h Q') (kk : ∀ x h', Q' x h' → G X d 283 21 [some (.ref 84), some (.int v1), some (.int v2), none] [.int x] h') : G X d 283 12 [some (.ref 84), some (.int v1), some (.int v2), none] [] h := by
  refine g_iload_n d_283_12 rfl rfl ?_
  refine g_i2l d_283_13 ?_
  refine g_lconst (v := 0) d_283_14 (by decide) ?_
  refine g_ldc2_w (v := 5) d_283_15 wd_394 ?_
  exact g_callSI (mj := 177) [.long (Int32.toInt64 v2), .long 0, .long 5] [] d_283_18 wd_395 mo_177 mc_177 mv_177 rfl rfl (Nat.le_of_ble_eq_true rfl)  hdd hC kk

theorem k_283_21 {X : GX} {d : Nat} {h : Hp} {v1 : Int32} {v2 : Int32} {s0 : Int32} (kt : ¬ s0 = 0 → G X d 283 40 [some (.ref 84), some (.int v1), some (.int v2), none] [] h) (kf : s0 = 0 → G X d 283 24 [some (.ref 84), some (.int v1), some (.int v2), none] [] h) : G X d 283 21 [some (.ref 84), some (.int v1), some (.int v2), none] [.int s0] h := by
  exact g_if_ne (tgt := 40) d_283_21 (by decide) kt kf

theorem k_283_24 {X : GX} {d : Nat} {h : Hp} {v1 : Int32} {v2 : Int32} {d' : Nat} {Q' : Int32 → Hp → Prop} (hdd : d' < d) (hC : CI d' 177 [.long (Int32.toInt64 v2), .long 10, .long 14] h Q') (kk : ∀ x h', Q' x h' → G X d 283 35 [some (.ref 84), some (.int v1), some (.int v2), none] [.int x] h') : G X d 283 24 [some (.ref 84), some (.int v1), some (.int v2), none] [] h := by
  refine g_iload_n d_283_24 rfl rfl ?_
  refine g_i2l d_283_25 ?_
  refine g_ldc2_w (v := 10) d_283_26 wd_439 ?_
  refine g_ldc2_w (v := 14) d_283_29 wd_541 ?_
  exact g_callSI (mj := 177) [.long (Int32.toInt64 v2), .long 10, .long 14] [] d_283_32 wd_395 mo_177 mc_177 mv_177 rfl rfl (Nat.le_of_ble_eq_true rfl)  hdd hC kk

theorem k_283_35 {X : GX} {d : Nat} {h : Hp} {v1 : Int32} {v2 : Int32} {s0 : Int32} (kt : ¬ s0 = 0 → G X d 283 40 [some (.ref 84), some (.int v1), some (.int v2), none] [] h) (kf : s0 = 0 → G X d 283 38 [none, none, none, none] [] h) : G X d 283 35 [some (.ref 84), some (.int v1), some (.int v2), none] [.int s0] h := by
  exact g_if_ne (tgt := 40) d_283_35 (by decide) kt (fun q => g_mask [false, false, false, false] (kf q))

theorem k_283_38 {X : GX} {d : Nat} {h : Hp} (hq : RtX X (some (.int ((-1)))) h) : G X d 283 38 [none, none, none, none] [] h := by
  refine g_iconst (v := (-1)) d_283_38 (by decide) ?_
  exact g_reti d_283_39 rfl hq

theorem k_283_40 {X : GX} {d : Nat} {h : Hp} {v1 : Int32} {v2 : Int32} {d' : Nat} {Q' : Int32 → Hp → Prop} (hdd : d' < d) (hC : CI d' 284 [.ref 84, .int v1] h Q') (kk : ∀ x h', Q' x h' → G X d 283 45 [some (.ref 84), some (.int v1), some (.int v2), none] [.int x] h') : G X d 283 40 [some (.ref 84), some (.int v1), some (.int v2), none] [] h := by
  refine g_aload_n d_283_40 rfl rfl ?_
  refine g_iload_n d_283_41 rfl rfl ?_
  exact g_callVI (mj := 284) 9 [.int v1] [] d_283_42 wd_542 mo_284 mc_284 mv_284 rfl rfl rfl (Nat.le_of_ble_eq_true rfl) rfl hdd hC kk

theorem k_283_45 {X : GX} {d : Nat} {h : Hp} {v1 : Int32} {v2 : Int32} {s0 : Int32} (kt : s0 = 0 → G X d 283 51 [some (.ref 84), some (.int v1), some (.int v2), none] [] h) (kf : ¬ s0 = 0 → G X d 283 48 [none, none, none, none] [] h) : G X d 283 45 [some (.ref 84), some (.int v1), some (.int v2), none] [.int s0] h := by
  exact g_if_eq (tgt := 51) d_283_45 (by decide) kt (fun q => g_mask [false, false, false, false] (kf q))

theorem k_283_48 {X : GX} {d : Nat} {h : Hp} (hq : RtX X (some (.int ((-11)))) h) : G X d 283 48 [none, none, none, none] [] h := by
  refine g_bipush (v := (-11)) d_283_48 (by decide) ?_
  exact g_reti d_283_50 rfl hq

theorem k_283_51 {X : GX} {d : Nat} {h : Hp} {v1 : Int32} {v2 : Int32} (b0 : IA 97 v1) (kt : ¬ (h 97 (Int32.toNatClampNeg v1)) = 2 → G X d 283 86 [some (.ref 84), some (.int v1), some (.int v2), none] [] h) (kf : (h 97 (Int32.toNatClampNeg v1)) = 2 → G X d 283 61 [some (.ref 84), some (.int v1), some (.int v2), none] [] h) : G X d 283 51 [some (.ref 84), some (.int v1), some (.int v2), none] [] h := by
  refine g_aload_n d_283_51 rfl rfl ?_
  refine g_getf (ci := 9) (k := 31) d_283_52 wd_386 (Nat.le_of_ble_eq_true rfl) rfl rfl ?_
  refine g_iload_n d_283_55 rfl rfl ?_
  refine g_iald d_283_56 b0 ?_
  refine g_iconst (v := 2) d_283_57 (by decide) ?_
  exact g_icmp_ne (tgt := 86) d_283_58 (by decide) kt kf

theorem k_283_61 {X : GX} {d : Nat} {h : Hp} {v1 : Int32} {v2 : Int32} (b0 : IA 98 v1) (kt : ¬ (h 98 (Int32.toNatClampNeg v1)) = (v2 - 10) → G X d 283 83 [none, none, none, none] [] h) (kf : (h 98 (Int32.toNatClampNeg v1)) = (v2 - 10) → G X d 283 74 [some (.ref 84), some (.int v1), none, none] [] h) : G X d 283 61 [some (.ref 84), some (.int v1), some (.int v2), none] [] h := by
  refine g_aload_n d_283_61 rfl rfl ?_
  refine g_getf (ci := 9) (k := 32) d_283_62 wd_387 (Nat.le_of_ble_eq_true rfl) rfl rfl ?_
  refine g_iload_n d_283_65 rfl rfl ?_
  refine g_iald d_283_66 b0 ?_
  refine g_iload_n d_283_67 rfl rfl ?_
  refine g_bipush (v := 10) d_283_68 (by decide) ?_
  refine g_isub d_283_70 ?_
  exact g_icmp_ne (tgt := 83) d_283_71 (by decide) (fun q => g_mask [false, false, false, false] (kt q)) (fun q => g_mask [true, true, false, false] (kf q))

theorem k_283_74 {X : GX} {d : Nat} {h : Hp} {v1 : Int32} (b0 : IA 99 v1) (hq : RtX X (some (.int (h 99 (Int32.toNatClampNeg v1)))) h) : G X d 283 74 [some (.ref 84), some (.int v1), none, none] [] h := by
  refine g_aload_n d_283_74 rfl rfl ?_
  refine g_getf (ci := 9) (k := 33) d_283_75 wd_388 (Nat.le_of_ble_eq_true rfl) rfl rfl ?_
  refine g_iload_n d_283_78 rfl rfl ?_
  refine g_iald d_283_79 b0 ?_
  refine g_goto (tgt := 85) d_283_80 (by decide) ?_
  exact g_reti d_283_85 rfl hq

theorem k_283_83 {X : GX} {d : Nat} {h : Hp} (hq : RtX X (some (.int ((-13)))) h) : G X d 283 83 [none, none, none, none] [] h := by
  refine g_bipush (v := (-13)) d_283_83 (by decide) ?_
  exact g_reti d_283_85 rfl hq

theorem k_283_86 {X : GX} {d : Nat} {h : Hp} {v1 : Int32} {v2 : Int32} {d' : Nat} {Q' : Int32 → Hp → Prop} (b0 : IA 98 v1) (hdd : d' < d) (hC : CI d' 182 [.ref 84, .int (h 98 (Int32.toNatClampNeg v1)), .int 0] h Q') (kk : ∀ x h', Q' x h' → G X d 283 97 [some (.ref 84), some (.int v1), some (.int v2), none] [.int x] h') : G X d 283 86 [some (.ref 84), some (.int v1), some (.int v2), none] [] h := by
  refine g_aload_n d_283_86 rfl rfl ?_
  refine g_aload_n d_283_87 rfl rfl ?_
  refine g_getf (ci := 9) (k := 32) d_283_88 wd_387 (Nat.le_of_ble_eq_true rfl) rfl rfl ?_
  refine g_iload_n d_283_91 rfl rfl ?_
  refine g_iald d_283_92 b0 ?_
  refine g_iconst (v := 0) d_283_93 (by decide) ?_
  exact g_callVI (mj := 182) 9 [.int (h 98 (Int32.toNatClampNeg v1)), .int 0] [] d_283_94 wd_402 mo_182 mc_182 mv_182 rfl rfl rfl (Nat.le_of_ble_eq_true rfl) rfl hdd hC kk

theorem k_283_97 {X : GX} {d : Nat} {h : Hp} {v1 : Int32} {v2 : Int32} {s0 : Int32} (kt : 10 ≤ v2 → G X d 283 130 [none, none, none, none] [] h) (kf : ¬ 10 ≤ v2 → G X d 283 104 [some (.ref 84), some (.int v1), some (.int v2), some (.int s0)] [] h) : G X d 283 97 [some (.ref 84), some (.int v1), some (.int v2), none] [.int s0] h := by
  refine g_istore_n d_283_97 rfl (Nat.le_of_ble_eq_true rfl) rfl ?_
  refine g_iload_n d_283_98 rfl rfl ?_
  refine g_bipush (v := 10) d_283_99 (by decide) ?_
  exact g_icmp_ge (tgt := 130) d_283_101 (by decide) (fun q => g_mask [false, false, false, false] (kt q)) kf

theorem k_283_104 {X : GX} {d : Nat} {h : Hp} {v1 : Int32} {v2 : Int32} {v3 : Int32} (kt : v2 = 0 → G X d 283 121 [some (.ref 84), some (.int v1), none, none] [] h) (kf : ¬ v2 = 0 → G X d 283 108 [some (.ref 84), some (.int v1), some (.int v2), some (.int v3)] [] h) : G X d 283 104 [some (.ref 84), some (.int v1), some (.int v2), some (.int v3)] [] h := by
  refine g_iload_n d_283_104 rfl rfl ?_
  exact g_if_eq (tgt := 121) d_283_105 (by decide) (fun q => g_mask [true, true, false, false] (kt q)) kf

theorem k_283_108 {X : GX} {d : Nat} {h : Hp} {v1 : Int32} {v2 : Int32} {v3 : Int32} (kt : v3 = v2 → G X d 283 121 [some (.ref 84), some (.int v1), none, none] [] h) (kf : ¬ v3 = v2 → G X d 283 113 [some (.ref 84), some (.int v1), some (.int v2), some (.int v3)] [] h) : G X d 283 108 [some (.ref 84), some (.int v1), some (.int v2), some (.int v3)] [] h := by
  refine g_iload_n d_283_108 rfl rfl ?_
  refine g_iload_n d_283_109 rfl rfl ?_
  exact g_icmp_eq (tgt := 121) d_283_110 (by decide) (fun q => g_mask [true, true, false, false] (kt q)) kf

theorem k_283_113 {X : GX} {d : Nat} {h : Hp} {v1 : Int32} {v2 : Int32} {v3 : Int32} {d' : Nat} {Q' : Int32 → Hp → Prop} (hdd : d' < d) (hC : CI d' 192 [.int v3] h Q') (kk : ∀ x h', Q' x h' → G X d 283 117 [some (.ref 84), some (.int v1), some (.int v2), none] [.int x] h') : G X d 283 113 [some (.ref 84), some (.int v1), some (.int v2), some (.int v3)] [] h := by
  refine g_iload_n d_283_113 rfl rfl ?_
  exact g_callSI (mj := 192) [.int v3] [] d_283_114 wd_412 mo_192 mc_192 mv_192 rfl rfl (Nat.le_of_ble_eq_true rfl)  hdd hC (fun x h' q => g_mask [true, true, true, false] (kk x h' q))

theorem k_283_117 {X : GX} {d : Nat} {h : Hp} {v1 : Int32} {v2 : Int32} {s0 : Int32} (kt : ¬ s0 = v2 → G X d 283 130 [none, none, none, none] [] h) (kf : s0 = v2 → G X d 283 121 [some (.ref 84), some (.int v1), none, none] [] h) : G X d 283 117 [some (.ref 84), some (.int v1), some (.int v2), none] [.int s0] h := by
  refine g_iload_n d_283_117 rfl rfl ?_
  exact g_icmp_ne (tgt := 130) d_283_118 (by decide) (fun q => g_mask [false, false, false, false] (kt q)) (fun q => g_mask [true, true, false, false] (kf q))

theorem k_283_121 {X : GX} {d : Nat} {h : Hp} {v1 : Int32} (b0 : IA 98 v1) (hq : RtX X (some (.int (h 98 (Int32.toNatClampNeg v1)))) h) : G X d 283 121 [some (.ref 84), some (.int v1), none, none] [] h := by
  refine g_aload_n d_283_121 rfl rfl ?_
  refine g_getf (ci := 9) (k := 32) d_283_122 wd_387 (Nat.le_of_ble_eq_true rfl) rfl rfl ?_
  refine g_iload_n d_283_125 rfl rfl ?_
  refine g_iald d_283_126 b0 ?_
  refine g_goto (tgt := 132) d_283_127 (by decide) ?_
  exact g_reti d_283_132 rfl hq

theorem k_283_130 {X : GX} {d : Nat} {h : Hp} (hq : RtX X (some (.int ((-13)))) h) : G X d 283 130 [none, none, none, none] [] h := by
  refine g_bipush (v := (-13)) d_283_130 (by decide) ?_
  exact g_reti d_283_132 rfl hq

/-! 284 PlayedTruthModel.holdsNothing(I)Z -/
theorem k_284_0 {X : GX} {d : Nat} {h : Hp} {v1 : Int32} (b0 : IA 97 v1) (kt : (h 97 (Int32.toNatClampNeg v1)) = 0 → G X d 284 32 [none, none] [] h) (kf : ¬ (h 97 (Int32.toNatClampNeg v1)) = 0 → G X d 284 9 [some (.ref 84), some (.int v1)] [] h) : G X d 284 0 [some (.ref 84), some (.int v1)] [] h := by
  refine g_aload_n d_284_0 rfl rfl ?_
  refine g_getf (ci := 9) (k := 31) d_284_1 wd_386 (Nat.le_of_ble_eq_true rfl) rfl rfl ?_
  refine g_iload_n d_284_4 rfl rfl ?_
  refine g_iald d_284_5 b0 ?_
  exact g_if_eq (tgt := 32) d_284_6 (by decide) (fun q => g_mask [false, false] (kt q)) kf

theorem k_284_9 {X : GX} {d : Nat} {h : Hp} {v1 : Int32} (b0 : IA 97 v1) (kt : ¬ (h 97 (Int32.toNatClampNeg v1)) = 1 → G X d 284 36 [none, none] [] h) (kf : (h 97 (Int32.toNatClampNeg v1)) = 1 → G X d 284 19 [some (.ref 84), some (.int v1)] [] h) : G X d 284 9 [some (.ref 84), some (.int v1)] [] h := by
  refine g_aload_n d_284_9 rfl rfl ?_
  refine g_getf (ci := 9) (k := 31) d_284_10 wd_386 (Nat.le_of_ble_eq_true rfl) rfl rfl ?_
  refine g_iload_n d_284_13 rfl rfl ?_
  refine g_iald d_284_14 b0 ?_
  refine g_iconst (v := 1) d_284_15 (by decide) ?_
  exact g_icmp_ne (tgt := 36) d_284_16 (by decide) (fun q => g_mask [false, false] (kt q)) kf

theorem k_284_19 {X : GX} {d : Nat} {h : Hp} {v1 : Int32} {d' : Nat} {Q' : Int32 → Hp → Prop} (b0 : IA 98 v1) (hdd : d' < d) (hC : CI d' 180 [.ref 84, .int (h 98 (Int32.toNatClampNeg v1))] h Q') (kk : ∀ x h', Q' x h' → G X d 284 29 [none, none] [.int x] h') : G X d 284 19 [some (.ref 84), some (.int v1)] [] h := by
  refine g_aload_n d_284_19 rfl rfl ?_
  refine g_aload_n d_284_20 rfl rfl ?_
  refine g_getf (ci := 9) (k := 32) d_284_21 wd_387 (Nat.le_of_ble_eq_true rfl) rfl rfl ?_
  refine g_iload_n d_284_24 rfl rfl ?_
  refine g_iald d_284_25 b0 ?_
  exact g_callVI (mj := 180) 9 [.int (h 98 (Int32.toNatClampNeg v1))] [] d_284_26 wd_400 mo_180 mc_180 mv_180 rfl rfl rfl (Nat.le_of_ble_eq_true rfl) rfl hdd hC (fun x h' q => g_mask [false, false] (kk x h' q))

theorem k_284_29 {X : GX} {d : Nat} {h : Hp} {s0 : Int32} (kt : ¬ s0 = 0 → G X d 284 36 [none, none] [] h) (kf : s0 = 0 → G X d 284 32 [none, none] [] h) : G X d 284 29 [none, none] [.int s0] h := by
  exact g_if_ne (tgt := 36) d_284_29 (by decide) kt kf

theorem k_284_32 {X : GX} {d : Nat} {h : Hp} (hq : RtX X (some (.int 1)) h) : G X d 284 32 [none, none] [] h := by
  refine g_iconst (v := 1) d_284_32 (by decide) ?_
  refine g_goto (tgt := 37) d_284_33 (by decide) ?_
  exact g_retz d_284_37 rfl z01_1 hq

theorem k_284_36 {X : GX} {d : Nat} {h : Hp} (hq : RtX X (some (.int 0)) h) : G X d 284 36 [none, none] [] h := by
  refine g_iconst (v := 0) d_284_36 (by decide) ?_
  exact g_retz d_284_37 rfl z01_0 hq

/-! 285 PlayedTruthModel.act(III)I -/
theorem k_285_0 {X : GX} {d : Nat} {h : Hp} {v1 : Int32} {v2 : Int32} {v3 : Int32} {d' : Nat} {Q' : Int32 → Hp → Prop} (hdd : d' < d) (hC : CI d' 177 [.long (Int32.toInt64 v1), .long 0, .long 3] (wr (wr h 84 35 0) 84 37 0) Q') (kk : ∀ x h', Q' x h' → G X d 285 19 [some (.ref 84), some (.int v1), some (.int v2), some (.int v3), none, none] [.int x] h') : G X d 285 0 [some (.ref 84), some (.int v1), some (.int v2), some (.int v3), none, none] [] h := by
  refine g_aload_n d_285_0 rfl rfl ?_
  refine g_iconst (v := 0) d_285_1 (by decide) ?_
  refine g_putf (ci := 9) (k := 35) d_285_2 wd_390 (Nat.le_of_ble_eq_true rfl) (Nat.le_of_ble_eq_true rfl) rfl rfl (Or.inl ⟨rfl, rfl⟩) rfl ?_
  refine g_aload_n d_285_5 rfl rfl ?_
  refine g_iconst (v := 0) d_285_6 (by decide) ?_
  refine g_putf (ci := 9) (k := 37) d_285_7 wd_392 (Nat.le_of_ble_eq_true rfl) (Nat.le_of_ble_eq_true rfl) rfl rfl (Or.inr ⟨rfl, rfl, z01_0⟩) rfl ?_
  refine g_iload_n d_285_10 rfl rfl ?_
  refine g_i2l d_285_11 ?_
  refine g_lconst (v := 0) d_285_12 (by decide) ?_
  refine g_ldc2_w (v := 3) d_285_13 wd_504 ?_
  exact g_callSI (mj := 177) [.long (Int32.toInt64 v1), .long 0, .long 3] [] d_285_16 wd_395 mo_177 mc_177 mv_177 rfl rfl (Nat.le_of_ble_eq_true rfl)  hdd hC kk

theorem k_285_19 {X : GX} {d : Nat} {h : Hp} {v1 : Int32} {v2 : Int32} {v3 : Int32} {s0 : Int32} (kt : s0 = 0 → G X d 285 52 [none, none, none, none, none, none] [] h) (kf : ¬ s0 = 0 → G X d 285 22 [some (.ref 84), some (.int v1), some (.int v2), some (.int v3), none, none] [] h) : G X d 285 19 [some (.ref 84), some (.int v1), some (.int v2), some (.int v3), none, none] [.int s0] h := by
  exact g_if_eq (tgt := 52) d_285_19 (by decide) (fun q => g_mask [false, false, false, false, false, false] (kt q)) kf

theorem k_285_22 {X : GX} {d : Nat} {h : Hp} {v1 : Int32} {v2 : Int32} {v3 : Int32} {d' : Nat} {Q' : Int32 → Hp → Prop} (hdd : d' < d) (hC : CI d' 177 [.long (Int32.toInt64 v2), .long 0, .long 3] h Q') (kk : ∀ x h', Q' x h' → G X d 285 31 [some (.ref 84), some (.int v1), some (.int v2), some (.int v3), none, none] [.int x] h') : G X d 285 22 [some (.ref 84), some (.int v1), some (.int v2), some (.int v3), none, none] [] h := by
  refine g_iload_n d_285_22 rfl rfl ?_
  refine g_i2l d_285_23 ?_
  refine g_lconst (v := 0) d_285_24 (by decide) ?_
  refine g_ldc2_w (v := 3) d_285_25 wd_504 ?_
  exact g_callSI (mj := 177) [.long (Int32.toInt64 v2), .long 0, .long 3] [] d_285_28 wd_395 mo_177 mc_177 mv_177 rfl rfl (Nat.le_of_ble_eq_true rfl)  hdd hC kk

theorem k_285_31 {X : GX} {d : Nat} {h : Hp} {v1 : Int32} {v2 : Int32} {v3 : Int32} {s0 : Int32} (kt : s0 = 0 → G X d 285 52 [none, none, none, none, none, none] [] h) (kf : ¬ s0 = 0 → G X d 285 34 [some (.ref 84), some (.int v1), some (.int v2), some (.int v3), none, none] [] h) : G X d 285 31 [some (.ref 84), some (.int v1), some (.int v2), some (.int v3), none, none] [.int s0] h := by
  exact g_if_eq (tgt := 52) d_285_31 (by decide) (fun q => g_mask [false, false, false, false, false, false] (kt q)) kf

theorem k_285_34 {X : GX} {d : Nat} {h : Hp} {v1 : Int32} {v2 : Int32} {v3 : Int32} {d' : Nat} {Q' : Int32 → Hp → Prop} (hdd : d' < d) (hC : CI d' 284 [.ref 84, .int v1] h Q') (kk : ∀ x h', Q' x h' → G X d 285 39 [some (.ref 84), some (.int v1), some (.int v2), some (.int v3), none, none] [.int x] h') : G X d 285 34 [some (.ref 84), some (.int v1), some (.int v2), some (.int v3), none, none] [] h := by
  refine g_aload_n d_285_34 rfl rfl ?_
  refine g_iload_n d_285_35 rfl rfl ?_
  exact g_callVI (mj := 284) 9 [.int v1] [] d_285_36 wd_542 mo_284 mc_284 mv_284 rfl rfl rfl (Nat.le_of_ble_eq_true rfl) rfl hdd hC kk

theorem k_285_39 {X : GX} {d : Nat} {h : Hp} {v1 : Int32} {v2 : Int32} {v3 : Int32} {s0 : Int32} (kt : ¬ s0 = 0 → G X d 285 52 [none, none, none, none, none, none] [] h) (kf : s0 = 0 → G X d 285 42 [some (.ref 84), some (.int v1), some (.int v2), some (.int v3), none, none] [] h) : G X d 285 39 [some (.ref 84), some (.int v1), some (.int v2), some (.int v3), none, none] [.int s0] h := by
  exact g_if_ne (tgt := 52) d_285_39 (by decide) (fun q => g_mask [false, false, false, false, false, false] (kt q)) kf

theorem k_285_42 {X : GX} {d : Nat} {h : Hp} {v1 : Int32} {v2 : Int32} {v3 : Int32} (b0 : IA 97 v1) (kt : ¬ (h 97 (Int32.toNatClampNeg v1)) = 2 → G X d 285 54 [some (.ref 84), some (.int v1), some (.int v2), some (.int v3), none, none] [] h) (kf : (h 97 (Int32.toNatClampNeg v1)) = 2 → G X d 285 52 [none, none, none, none, none, none] [] h) : G X d 285 42 [some (.ref 84), some (.int v1), some (.int v2), some (.int v3), none, none] [] h := by
  refine g_aload_n d_285_42 rfl rfl ?_
  refine g_getf (ci := 9) (k := 31) d_285_43 wd_386 (Nat.le_of_ble_eq_true rfl) rfl rfl ?_
  refine g_iload_n d_285_46 rfl rfl ?_
  refine g_iald d_285_47 b0 ?_
  refine g_iconst (v := 2) d_285_48 (by decide) ?_
  exact g_icmp_ne (tgt := 54) d_285_49 (by decide) kt (fun q => g_mask [false, false, false, false, false, false] (kf q))

theorem k_285_52 {X : GX} {d : Nat} {h : Hp} (hq : RtX X (some (.int 0)) h) : G X d 285 52 [none, none, none, none, none, none] [] h := by
  refine g_iconst (v := 0) d_285_52 (by decide) ?_
  exact g_reti d_285_53 rfl hq

theorem k_285_54 {X : GX} {d : Nat} {h : Hp} {v1 : Int32} {v2 : Int32} {v3 : Int32} {d' : Nat} {Q' : Int32 → Hp → Prop} (b0 : IA 98 v1) (hdd : d' < d) (hC : CI d' 182 [.ref 84, .int ((wr h 84 36 (h 98 (Int32.toNatClampNeg v1))) 84 36), .int 0] (wr h 84 36 (h 98 (Int32.toNatClampNeg v1))) Q') (kk : ∀ x h', Q' x h' → G X d 285 73 [some (.ref 84), none, some (.int v2), some (.int v3), none, none] [.int x] h') : G X d 285 54 [some (.ref 84), some (.int v1), some (.int v2), some (.int v3), none, none] [] h := by
  refine g_aload_n d_285_54 rfl rfl ?_
  refine g_aload_n d_285_55 rfl rfl ?_
  refine g_getf (ci := 9) (k := 32) d_285_56 wd_387 (Nat.le_of_ble_eq_true rfl) rfl rfl ?_
  refine g_iload_n d_285_59 rfl rfl ?_
  refine g_iald d_285_60 b0 ?_
  refine g_putf (ci := 9) (k := 36) d_285_61 wd_391 (Nat.le_of_ble_eq_true rfl) (Nat.le_of_ble_eq_true rfl) rfl rfl (Or.inl ⟨rfl, rfl⟩) rfl ?_
  refine g_aload_n d_285_64 rfl rfl ?_
  refine g_aload_n d_285_65 rfl rfl ?_
  refine g_getf (ci := 9) (k := 36) d_285_66 wd_391 (Nat.le_of_ble_eq_true rfl) rfl rfl ?_
  refine g_iconst (v := 0) d_285_69 (by decide) ?_
  exact g_callVI (mj := 182) 9 [.int ((wr h 84 36 (h 98 (Int32.toNatClampNeg v1))) 84 36), .int 0] [] d_285_70 wd_402 mo_182 mc_182 mv_182 rfl rfl rfl (Nat.le_of_ble_eq_true rfl) rfl hdd hC (fun x h' q => g_mask [true, false, true, true, false, false] (kk x h' q))

theorem k_285_73 {X : GX} {d : Nat} {h : Hp} {v2 : Int32} {v3 : Int32} {s0 : Int32} (kt : ¬ v2 = 0 → G X d 285 89 [some (.ref 84), none, some (.int v2), some (.int v3), some (.int s0), none] [] h) (kf : v2 = 0 → G X d 285 79 [some (.ref 84), none, none, some (.int v3), some (.int s0), none] [] h) : G X d 285 73 [some (.ref 84), none, some (.int v2), some (.int v3), none, none] [.int s0] h := by
  refine g_istore d_285_73 (Nat.le_of_ble_eq_true rfl) rfl ?_
  refine g_iload_n d_285_75 rfl rfl ?_
  exact g_if_ne (tgt := 89) d_285_76 (by decide) kt (fun q => g_mask [true, false, false, true, true, false] (kf q))

theorem k_285_79 {X : GX} {d : Nat} {h : Hp} {v3 : Int32} {v4 : Int32} {d' : Nat} {Q' : Int32 → Hp → Prop} (hdd : d' < d) (hC : CI d' 286 [.ref 84, .int v4, .int v3] h Q') (kk : ∀ x h', Q' x h' → G X d 285 86 [some (.ref 84), none, none, none, none, none] [.int x] h') : G X d 285 79 [some (.ref 84), none, none, some (.int v3), some (.int v4), none] [] h := by
  refine g_aload_n d_285_79 rfl rfl ?_
  refine g_iload d_285_80 rfl ?_
  refine g_iload_n d_285_82 rfl rfl ?_
  exact g_callVI (mj := 286) 9 [.int v4, .int v3] [] d_285_83 wd_544 mo_286 mc_286 mv_286 rfl rfl rfl (Nat.le_of_ble_eq_true rfl) rfl hdd hC (fun x h' q => g_mask [true, false, false, false, false, false] (kk x h' q))

theorem k_285_86 {X : GX} {d : Nat} {h : Hp} {s0 : Int32} (kt : (h 84 37) = 0 → G X d 285 140 [none, none, none, none, none, some (.int s0)] [] h) (kf : ¬ (h 84 37) = 0 → G X d 285 135 [none, none, none, none, none, none] [] h) : G X d 285 86 [some (.ref 84), none, none, none, none, none] [.int s0] h := by
  refine g_goto (tgt := 126) d_285_86 (by decide) ?_
  refine g_istore d_285_126 (Nat.le_of_ble_eq_true rfl) rfl ?_
  refine g_aload_n d_285_128 rfl rfl ?_
  refine g_getf (ci := 9) (k := 37) d_285_129 wd_392 (Nat.le_of_ble_eq_true rfl) rfl rfl ?_
  exact g_if_eq (tgt := 140) d_285_132 (by decide) (fun q => g_mask [false, false, false, false, false, true] (kt q)) (fun q => g_mask [false, false, false, false, false, false] (kf q))

theorem k_285_89 {X : GX} {d : Nat} {h : Hp} {v2 : Int32} {v3 : Int32} {v4 : Int32} (kt : ¬ v2 = 1 → G X d 285 104 [some (.ref 84), none, some (.int v2), some (.int v3), some (.int v4), none] [] h) (kf : v2 = 1 → G X d 285 94 [some (.ref 84), none, none, some (.int v3), some (.int v4), none] [] h) : G X d 285 89 [some (.ref 84), none, some (.int v2), some (.int v3), some (.int v4), none] [] h := by
  refine g_iload_n d_285_89 rfl rfl ?_
  refine g_iconst (v := 1) d_285_90 (by decide) ?_
  exact g_icmp_ne (tgt := 104) d_285_91 (by decide) kt (fun q => g_mask [true, false, false, true, true, false] (kf q))

theorem k_285_94 {X : GX} {d : Nat} {h : Hp} {v3 : Int32} {v4 : Int32} {d' : Nat} {Q' : Int32 → Hp → Prop} (hdd : d' < d) (hC : CI d' 288 [.ref 84, .int v4, .int v3] h Q') (kk : ∀ x h', Q' x h' → G X d 285 101 [some (.ref 84), none, none, none, none, none] [.int x] h') : G X d 285 94 [some (.ref 84), none, none, some (.int v3), some (.int v4), none] [] h := by
  refine g_aload_n d_285_94 rfl rfl ?_
  refine g_iload d_285_95 rfl ?_
  refine g_iload_n d_285_97 rfl rfl ?_
  exact g_callVI (mj := 288) 9 [.int v4, .int v3] [] d_285_98 wd_546 mo_288 mc_288 mv_288 rfl rfl rfl (Nat.le_of_ble_eq_true rfl) rfl hdd hC (fun x h' q => g_mask [true, false, false, false, false, false] (kk x h' q))

theorem k_285_101 {X : GX} {d : Nat} {h : Hp} {s0 : Int32} (kt : (h 84 37) = 0 → G X d 285 140 [none, none, none, none, none, some (.int s0)] [] h) (kf : ¬ (h 84 37) = 0 → G X d 285 135 [none, none, none, none, none, none] [] h) : G X d 285 101 [some (.ref 84), none, none, none, none, none] [.int s0] h := by
  refine g_goto (tgt := 126) d_285_101 (by decide) ?_
  refine g_istore d_285_126 (Nat.le_of_ble_eq_true rfl) rfl ?_
  refine g_aload_n d_285_128 rfl rfl ?_
  refine g_getf (ci := 9) (k := 37) d_285_129 wd_392 (Nat.le_of_ble_eq_true rfl) rfl rfl ?_
  exact g_if_eq (tgt := 140) d_285_132 (by decide) (fun q => g_mask [false, false, false, false, false, true] (kt q)) (fun q => g_mask [false, false, false, false, false, false] (kf q))

theorem k_285_104 {X : GX} {d : Nat} {h : Hp} {v2 : Int32} {v3 : Int32} {v4 : Int32} (kt : ¬ v2 = 2 → G X d 285 119 [some (.ref 84), none, none, some (.int v3), some (.int v4), none] [] h) (kf : v2 = 2 → G X d 285 109 [some (.ref 84), none, none, some (.int v3), some (.int v4), none] [] h) : G X d 285 104 [some (.ref 84), none, some (.int v2), some (.int v3), some (.int v4), none] [] h := by
  refine g_iload_n d_285_104 rfl rfl ?_
  refine g_iconst (v := 2) d_285_105 (by decide) ?_
  exact g_icmp_ne (tgt := 119) d_285_106 (by decide) (fun q => g_mask [true, false, false, true, true, false] (kt q)) (fun q => g_mask [true, false, false, true, true, false] (kf q))

theorem k_285_109 {X : GX} {d : Nat} {h : Hp} {v3 : Int32} {v4 : Int32} {d' : Nat} {Q' : Int32 → Hp → Prop} (hdd : d' < d) (hC : CI d' 289 [.ref 84, .int v4, .int v3] h Q') (kk : ∀ x h', Q' x h' → G X d 285 116 [some (.ref 84), none, none, none, none, none] [.int x] h') : G X d 285 109 [some (.ref 84), none, none, some (.int v3), some (.int v4), none] [] h := by
  refine g_aload_n d_285_109 rfl rfl ?_
  refine g_iload d_285_110 rfl ?_
  refine g_iload_n d_285_112 rfl rfl ?_
  exact g_callVI (mj := 289) 9 [.int v4, .int v3] [] d_285_113 wd_547 mo_289 mc_289 mv_289 rfl rfl rfl (Nat.le_of_ble_eq_true rfl) rfl hdd hC (fun x h' q => g_mask [true, false, false, false, false, false] (kk x h' q))

theorem k_285_116 {X : GX} {d : Nat} {h : Hp} {s0 : Int32} (kt : (h 84 37) = 0 → G X d 285 140 [none, none, none, none, none, some (.int s0)] [] h) (kf : ¬ (h 84 37) = 0 → G X d 285 135 [none, none, none, none, none, none] [] h) : G X d 285 116 [some (.ref 84), none, none, none, none, none] [.int s0] h := by
  refine g_goto (tgt := 126) d_285_116 (by decide) ?_
  refine g_istore d_285_126 (Nat.le_of_ble_eq_true rfl) rfl ?_
  refine g_aload_n d_285_128 rfl rfl ?_
  refine g_getf (ci := 9) (k := 37) d_285_129 wd_392 (Nat.le_of_ble_eq_true rfl) rfl rfl ?_
  exact g_if_eq (tgt := 140) d_285_132 (by decide) (fun q => g_mask [false, false, false, false, false, true] (kt q)) (fun q => g_mask [false, false, false, false, false, false] (kf q))

theorem k_285_119 {X : GX} {d : Nat} {h : Hp} {v3 : Int32} {v4 : Int32} {d' : Nat} {Q' : Int32 → Hp → Prop} (hdd : d' < d) (hC : CI d' 290 [.ref 84, .int v4, .int v3] h Q') (kk : ∀ x h', Q' x h' → G X d 285 126 [some (.ref 84), none, none, none, none, none] [.int x] h') : G X d 285 119 [some (.ref 84), none, none, some (.int v3), some (.int v4), none] [] h := by
  refine g_aload_n d_285_119 rfl rfl ?_
  refine g_iload d_285_120 rfl ?_
  refine g_iload_n d_285_122 rfl rfl ?_
  exact g_callVI (mj := 290) 9 [.int v4, .int v3] [] d_285_123 wd_548 mo_290 mc_290 mv_290 rfl rfl rfl (Nat.le_of_ble_eq_true rfl) rfl hdd hC (fun x h' q => g_mask [true, false, false, false, false, false] (kk x h' q))

theorem k_285_126 {X : GX} {d : Nat} {h : Hp} {s0 : Int32} (kt : (h 84 37) = 0 → G X d 285 140 [none, none, none, none, none, some (.int s0)] [] h) (kf : ¬ (h 84 37) = 0 → G X d 285 135 [none, none, none, none, none, none] [] h) : G X d 285 126 [some (.ref 84), none, none, none, none, none] [.int s0] h := by
  refine g_istore d_285_126 (Nat.le_of_ble_eq_true rfl) rfl ?_
  refine g_aload_n d_285_128 rfl rfl ?_
  refine g_getf (ci := 9) (k := 37) d_285_129 wd_392 (Nat.le_of_ble_eq_true rfl) rfl rfl ?_
  exact g_if_eq (tgt := 140) d_285_132 (by decide) (fun q => g_mask [false, false, false, false, false, true] (kt q)) (fun q => g_mask [false, false, false, false, false, false] (kf q))

theorem k_285_135 {X : GX} {d : Nat} {h : Hp} (hq : RtX X (some (.int ((-15)))) h) : G X d 285 135 [none, none, none, none, none, none] [] h := by
  refine g_bipush (v := (-15)) d_285_135 (by decide) ?_
  refine g_goto (tgt := 142) d_285_137 (by decide) ?_
  exact g_reti d_285_142 rfl hq

theorem k_285_140 {X : GX} {d : Nat} {h : Hp} {v5 : Int32} (hq : RtX X (some (.int v5)) h) : G X d 285 140 [none, none, none, none, none, some (.int v5)] [] h := by
  refine g_iload d_285_140 rfl ?_
  exact g_reti d_285_142 rfl hq

/-! 286 PlayedTruthModel.entersBy(II)I -/
theorem k_286_0 {X : GX} {d : Nat} {h : Hp} {v1 : Int32} {v2 : Int32} (k0 : v1 = 0 → G X d 286 32 [some (.ref 84), none, some (.int v2)] [] h) (k1 : v1 = 1 → G X d 286 48 [some (.ref 84), none, some (.int v2)] [] h) (k2 : v1 = 2 → G X d 286 80 [some (.ref 84), some (.int v1), some (.int v2)] [] h) (k3 : v1 = 3 → G X d 286 64 [some (.ref 84), none, some (.int v2)] [] h) (kd : ¬ v1 = 0 → ¬ v1 = 1 → ¬ v1 = 2 → ¬ v1 = 3 → G X d 286 80 [some (.ref 84), some (.int v1), some (.int v2)] [] h) : G X d 286 0 [some (.ref 84), some (.int v1), some (.int v2)] [] h := by
  refine g_iload_n d_286_0 rfl rfl ?_
  exact g_table (tls := [(0, 32), (1, 48), (2, 80), (3, 64)]) (df := 80) d_286_1 (by decide +kernel) ⟨fun q => g_mask [true, false, true] (k0 q), fun n0 => ⟨fun q => g_mask [true, false, true] (k1 q), fun n1 => ⟨fun q => k2 q, fun n2 => ⟨fun q => g_mask [true, false, true] (k3 q), fun n3 => (kd n0 n1 n2 n3)⟩⟩⟩⟩

theorem k_286_32 {X : GX} {d : Nat} {h : Hp} {v2 : Int32} {d' : Nat} {Q' : Hp → Prop} (hdd : d' < d) (hC : CV d' 287 [.ref 84, .int 10] h Q') (kk : ∀ h', Q' h' → G X d 286 38 [some (.ref 84), none, some (.int v2)] [] h') : G X d 286 32 [some (.ref 84), none, some (.int v2)] [] h := by
  refine g_aload_n d_286_32 rfl rfl ?_
  refine g_bipush (v := 10) d_286_33 (by decide) ?_
  exact g_callVV (mj := 287) 9 [.int 10] [] d_286_35 wd_545 mo_287 mc_287 mv_287 rfl rfl rfl (Nat.le_of_ble_eq_true rfl) rfl hdd hC kk

theorem k_286_38 {X : GX} {d : Nat} {h : Hp} {v2 : Int32} (hq : RtX X (some (.int ((v2 * 6) + (h 84 36)))) h) : G X d 286 38 [some (.ref 84), none, some (.int v2)] [] h := by
  refine g_iload_n d_286_38 rfl rfl ?_
  refine g_bipush (v := 6) d_286_39 (by decide) ?_
  refine g_imul d_286_41 ?_
  refine g_aload_n d_286_42 rfl rfl ?_
  refine g_getf (ci := 9) (k := 36) d_286_43 wd_391 (Nat.le_of_ble_eq_true rfl) rfl rfl ?_
  refine g_iadd d_286_46 ?_
  exact g_reti d_286_47 rfl hq

theorem k_286_48 {X : GX} {d : Nat} {h : Hp} {v2 : Int32} {d' : Nat} {Q' : Hp → Prop} (hdd : d' < d) (hC : CV d' 287 [.ref 84, .int 20] h Q') (kk : ∀ h', Q' h' → G X d 286 54 [some (.ref 84), none, some (.int v2)] [] h') : G X d 286 48 [some (.ref 84), none, some (.int v2)] [] h := by
  refine g_aload_n d_286_48 rfl rfl ?_
  refine g_bipush (v := 20) d_286_49 (by decide) ?_
  exact g_callVV (mj := 287) 9 [.int 20] [] d_286_51 wd_545 mo_287 mc_287 mv_287 rfl rfl rfl (Nat.le_of_ble_eq_true rfl) rfl hdd hC kk

theorem k_286_54 {X : GX} {d : Nat} {h : Hp} {v2 : Int32} {d' : Nat} {Q' : Int32 → Hp → Prop} (hdd : d' < d) (hC : CI d' 286 [.ref 84, .int 0, .int v2] h Q') (kk : ∀ x h', Q' x h' → G X d 286 60 [none, none, none] [.int x] h') : G X d 286 54 [some (.ref 84), none, some (.int v2)] [] h := by
  refine g_aload_n d_286_54 rfl rfl ?_
  refine g_iconst (v := 0) d_286_55 (by decide) ?_
  refine g_iload_n d_286_56 rfl rfl ?_
  exact g_callVI (mj := 286) 9 [.int 0, .int v2] [] d_286_57 wd_544 mo_286 mc_286 mv_286 rfl rfl rfl (Nat.le_of_ble_eq_true rfl) rfl hdd hC (fun x h' q => g_mask [false, false, false] (kk x h' q))

theorem k_286_60 {X : GX} {d : Nat} {h : Hp} {s0 : Int32} (hq : RtX X (some (.int (s0 ^^^ 10))) h) : G X d 286 60 [none, none, none] [.int s0] h := by
  refine g_bipush (v := 10) d_286_60 (by decide) ?_
  refine g_ixor d_286_62 ?_
  exact g_reti d_286_63 rfl hq

theorem k_286_64 {X : GX} {d : Nat} {h : Hp} {v2 : Int32} {d' : Nat} {Q' : Hp → Prop} (hdd : d' < d) (hC : CV d' 287 [.ref 84, .int 50] h Q') (kk : ∀ h', Q' h' → G X d 286 70 [some (.ref 84), none, some (.int v2)] [] h') : G X d 286 64 [some (.ref 84), none, some (.int v2)] [] h := by
  refine g_aload_n d_286_64 rfl rfl ?_
  refine g_bipush (v := 50) d_286_65 (by decide) ?_
  exact g_callVV (mj := 287) 9 [.int 50] [] d_286_67 wd_545 mo_287 mc_287 mv_287 rfl rfl rfl (Nat.le_of_ble_eq_true rfl) rfl hdd hC kk

theorem k_286_70 {X : GX} {d : Nat} {h : Hp} {v2 : Int32} {d' : Nat} {Q' : Int32 → Hp → Prop} (hdd : d' < d) (hC : CI d' 286 [.ref 84, .int 2, .int (v2 + 7)] h Q') (kk : ∀ x h', Q' x h' → G X d 286 79 [none, none, none] [.int x] h') : G X d 286 70 [some (.ref 84), none, some (.int v2)] [] h := by
  refine g_aload_n d_286_70 rfl rfl ?_
  refine g_iconst (v := 2) d_286_71 (by decide) ?_
  refine g_iload_n d_286_72 rfl rfl ?_
  refine g_bipush (v := 7) d_286_73 (by decide) ?_
  refine g_iadd d_286_75 ?_
  exact g_callVI (mj := 286) 9 [.int 2, .int (v2 + 7)] [] d_286_76 wd_544 mo_286 mc_286 mv_286 rfl rfl rfl (Nat.le_of_ble_eq_true rfl) rfl hdd hC (fun x h' q => g_mask [false, false, false] (kk x h' q))

theorem k_286_79 {X : GX} {d : Nat} {h : Hp} {s0 : Int32} (hq : RtX X (some (.int s0)) h) : G X d 286 79 [none, none, none] [.int s0] h := by
  exact g_reti d_286_79 rfl hq

theorem k_286_80 {X : GX} {d : Nat} {h : Hp} {v1 : Int32} {v2 : Int32} {d' : Nat} {Q' : Int32 → Hp → Prop} (hdd : d' < d) (hC : CI d' 192 [.int v1] h Q') (kk : ∀ x h', Q' x h' → G X d 286 85 [none, none, some (.int v2)] [.int x, .ref 84] h') : G X d 286 80 [some (.ref 84), some (.int v1), some (.int v2)] [] h := by
  refine g_aload_n d_286_80 rfl rfl ?_
  refine g_iload_n d_286_81 rfl rfl ?_
  exact g_callSI (mj := 192) [.int v1] [.ref 84] d_286_82 wd_412 mo_192 mc_192 mv_192 rfl rfl (Nat.le_of_ble_eq_true rfl)  hdd hC (fun x h' q => g_mask [false, false, true] (kk x h' q))

theorem k_286_85 {X : GX} {d : Nat} {h : Hp} {v2 : Int32} {s0 : Int32} {s1 : Nat} {d' : Nat} {Q' : Int32 → Hp → Prop} (o0 : sh s1 = (1, 9)) (hdd : d' < d) (hC : CI d' 286 [.ref s1, .int s0, .int v2] h Q') (kk : ∀ x h', Q' x h' → G X d 286 89 [none, none, none] [.int x] h') : G X d 286 85 [none, none, some (.int v2)] [.int s0, .ref s1] h := by
  refine g_iload_n d_286_85 rfl rfl ?_
  exact g_callVI (mj := 286) 9 [.int s0, .int v2] [] d_286_86 wd_544 mo_286 mc_286 mv_286 rfl rfl rfl (Nat.le_of_ble_eq_true rfl) o0 hdd hC (fun x h' q => g_mask [false, false, false] (kk x h' q))

theorem k_286_89 {X : GX} {d : Nat} {h : Hp} {s0 : Int32} (hq : RtX X (some (.int s0)) h) : G X d 286 89 [none, none, none] [.int s0] h := by
  exact g_reti d_286_89 rfl hq

/-! 287 PlayedTruthModel.ran(I)V -/
theorem k_287_0 {X : GX} {d : Nat} {h : Hp} {v1 : Int32} (kt : 30 ≤ (h 84 35) → G X d 287 36 [none, none] [] h) (kf : ¬ 30 ≤ (h 84 35) → G X d 287 9 [some (.ref 84), some (.int v1)] [] h) : G X d 287 0 [some (.ref 84), some (.int v1)] [] h := by
  refine g_aload_n d_287_0 rfl rfl ?_
  refine g_getf (ci := 9) (k := 35) d_287_1 wd_390 (Nat.le_of_ble_eq_true rfl) rfl rfl ?_
  refine g_bipush (v := 30) d_287_4 (by decide) ?_
  exact g_icmp_ge (tgt := 36) d_287_6 (by decide) (fun q => g_mask [false, false] (kt q)) kf

theorem k_287_9 {X : GX} {d : Nat} {h : Hp} {v1 : Int32} (kt : ¬ (h 84 37) = 0 → G X d 287 36 [none, none] [] h) (kf : (h 84 37) = 0 → G X d 287 16 [some (.ref 84), some (.int v1)] [] h) : G X d 287 9 [some (.ref 84), some (.int v1)] [] h := by
  refine g_aload_n d_287_9 rfl rfl ?_
  refine g_getf (ci := 9) (k := 37) d_287_10 wd_392 (Nat.le_of_ble_eq_true rfl) rfl rfl ?_
  exact g_if_ne (tgt := 36) d_287_13 (by decide) (fun q => g_mask [false, false] (kt q)) kf

theorem k_287_16 {X : GX} {d : Nat} {h : Hp} {v1 : Int32} (b0 : IA 100 (h 84 35)) (hq : RtX X none (wr (wr h 100 (Int32.toNatClampNeg (h 84 35)) v1) 84 35 (((wr h 100 (Int32.toNatClampNeg (h 84 35)) v1) 84 35) + 1))) : G X d 287 16 [some (.ref 84), some (.int v1)] [] h := by
  refine g_aload_n d_287_16 rfl rfl ?_
  refine g_getf (ci := 9) (k := 34) d_287_17 wd_389 (Nat.le_of_ble_eq_true rfl) rfl rfl ?_
  refine g_aload_n d_287_20 rfl rfl ?_
  refine g_getf (ci := 9) (k := 35) d_287_21 wd_390 (Nat.le_of_ble_eq_true rfl) rfl rfl ?_
  refine g_iload_n d_287_24 rfl rfl ?_
  refine g_iast d_287_25 b0 ?_
  refine g_aload_n d_287_26 rfl rfl ?_
  refine g_dup d_287_27 rfl ?_
  refine g_getf (ci := 9) (k := 35) d_287_28 wd_390 (Nat.le_of_ble_eq_true rfl) rfl rfl ?_
  refine g_iconst (v := 1) d_287_31 (by decide) ?_
  refine g_iadd d_287_32 ?_
  refine g_putf (ci := 9) (k := 35) d_287_33 wd_390 (Nat.le_of_ble_eq_true rfl) (Nat.le_of_ble_eq_true rfl) rfl rfl (Or.inl ⟨rfl, rfl⟩) rfl ?_
  exact g_retv d_287_36 rfl hq

theorem k_287_36 {X : GX} {d : Nat} {h : Hp} (hq : RtX X none h) : G X d 287 36 [none, none] [] h := by
  exact g_retv d_287_36 rfl hq

/-! 288 PlayedTruthModel.speaksBy(II)I -/
theorem k_288_0 {X : GX} {d : Nat} {h : Hp} {v1 : Int32} {v2 : Int32} (k0 : v1 = 0 → G X d 288 36 [some (.ref 84), none, some (.int v2)] [] h) (k1 : v1 = 2 → G X d 288 67 [some (.ref 84), none, some (.int v2)] [] h) (k2 : v1 = 5 → G X d 288 82 [some (.ref 84), none, some (.int v2)] [] h) (kd : ¬ v1 = 0 → ¬ v1 = 2 → ¬ v1 = 5 → G X d 288 97 [some (.ref 84), some (.int v1), some (.int v2)] [] h) : G X d 288 0 [some (.ref 84), some (.int v1), some (.int v2)] [] h := by
  refine g_iload_n d_288_0 rfl rfl ?_
  exact g_lookup (tls := [(0, 36), (2, 67), (5, 82)]) (df := 97) d_288_1 (by decide +kernel) ⟨fun q => g_mask [true, false, true] (k0 q), fun n0 => ⟨fun q => g_mask [true, false, true] (k1 q), fun n1 => ⟨fun q => g_mask [true, false, true] (k2 q), fun n2 => (kd n0 n1 n2)⟩⟩⟩

theorem k_288_36 {X : GX} {d : Nat} {h : Hp} {v2 : Int32} {d' : Nat} {Q' : Hp → Prop} (hdd : d' < d) (hC : CV d' 287 [.ref 84, .int 11] h Q') (kk : ∀ h', Q' h' → G X d 288 42 [some (.ref 84), none, some (.int v2)] [] h') : G X d 288 36 [some (.ref 84), none, some (.int v2)] [] h := by
  refine g_aload_n d_288_36 rfl rfl ?_
  refine g_bipush (v := 11) d_288_37 (by decide) ?_
  exact g_callVV (mj := 287) 9 [.int 11] [] d_288_39 wd_545 mo_287 mc_287 mv_287 rfl rfl rfl (Nat.le_of_ble_eq_true rfl) rfl hdd hC kk

theorem k_288_42 {X : GX} {d : Nat} {h : Hp} {v2 : Int32} {d' : Nat} {Q' : Int32 → Hp → Prop} (hdd : d' < d) (hC : CI d' 182 [.ref 84, .int (h 84 36), .int 0] h Q') (kk : ∀ x h', Q' x h' → G X d 288 52 [some (.ref 84), none, some (.int v2)] [.int x, .ref 84] h') : G X d 288 42 [some (.ref 84), none, some (.int v2)] [] h := by
  refine g_aload_n d_288_42 rfl rfl ?_
  refine g_aload_n d_288_43 rfl rfl ?_
  refine g_aload_n d_288_44 rfl rfl ?_
  refine g_getf (ci := 9) (k := 36) d_288_45 wd_391 (Nat.le_of_ble_eq_true rfl) rfl rfl ?_
  refine g_iconst (v := 0) d_288_48 (by decide) ?_
  exact g_callVI (mj := 182) 9 [.int (h 84 36), .int 0] [.ref 84] d_288_49 wd_402 mo_182 mc_182 mv_182 rfl rfl rfl (Nat.le_of_ble_eq_true rfl) rfl hdd hC kk

theorem k_288_52 {X : GX} {d : Nat} {h : Hp} {v2 : Int32} {s0 : Int32} {s1 : Nat} {d' : Nat} {Q' : Int32 → Hp → Prop} (o0 : sh s1 = (1, 9)) (hdd : d' < d) (hC : CI d' 286 [.ref s1, .int s0, .int v2] h Q') (kk : ∀ x h', Q' x h' → G X d 288 56 [some (.ref 84), none, none] [.int x] h') : G X d 288 52 [some (.ref 84), none, some (.int v2)] [.int s0, .ref s1] h := by
  refine g_iload_n d_288_52 rfl rfl ?_
  exact g_callVI (mj := 286) 9 [.int s0, .int v2] [] d_288_53 wd_544 mo_286 mc_286 mv_286 rfl rfl rfl (Nat.le_of_ble_eq_true rfl) o0 hdd hC (fun x h' q => g_mask [true, false, false] (kk x h' q))

theorem k_288_56 {X : GX} {d : Nat} {h : Hp} {s0 : Int32} {d' : Nat} {Q' : Int32 → Hp → Prop} (hdd : d' < d) (hC : CI d' 182 [.ref 84, .int (h 84 36), .int 3] h Q') (kk : ∀ x h', Q' x h' → G X d 288 65 [none, none, none] [.int x, .int s0] h') : G X d 288 56 [some (.ref 84), none, none] [.int s0] h := by
  refine g_aload_n d_288_56 rfl rfl ?_
  refine g_aload_n d_288_57 rfl rfl ?_
  refine g_getf (ci := 9) (k := 36) d_288_58 wd_391 (Nat.le_of_ble_eq_true rfl) rfl rfl ?_
  refine g_iconst (v := 3) d_288_61 (by decide) ?_
  exact g_callVI (mj := 182) 9 [.int (h 84 36), .int 3] [.int s0] d_288_62 wd_402 mo_182 mc_182 mv_182 rfl rfl rfl (Nat.le_of_ble_eq_true rfl) rfl hdd hC (fun x h' q => g_mask [false, false, false] (kk x h' q))

theorem k_288_65 {X : GX} {d : Nat} {h : Hp} {s0 : Int32} {s1 : Int32} (hq : RtX X (some (.int (s1 - s0))) h) : G X d 288 65 [none, none, none] [.int s0, .int s1] h := by
  refine g_isub d_288_65 ?_
  exact g_reti d_288_66 rfl hq

theorem k_288_67 {X : GX} {d : Nat} {h : Hp} {v2 : Int32} {d' : Nat} {Q' : Hp → Prop} (hdd : d' < d) (hC : CV d' 287 [.ref 84, .int 30] h Q') (kk : ∀ h', Q' h' → G X d 288 73 [some (.ref 84), none, some (.int v2)] [] h') : G X d 288 67 [some (.ref 84), none, some (.int v2)] [] h := by
  refine g_aload_n d_288_67 rfl rfl ?_
  refine g_bipush (v := 30) d_288_68 (by decide) ?_
  exact g_callVV (mj := 287) 9 [.int 30] [] d_288_70 wd_545 mo_287 mc_287 mv_287 rfl rfl rfl (Nat.le_of_ble_eq_true rfl) rfl hdd hC kk

theorem k_288_73 {X : GX} {d : Nat} {h : Hp} {v2 : Int32} {d' : Nat} {Q' : Int32 → Hp → Prop} (hdd : d' < d) (hC : CI d' 288 [.ref 84, .int 0, .int v2] h Q') (kk : ∀ x h', Q' x h' → G X d 288 79 [none, none, none] [.int x] h') : G X d 288 73 [some (.ref 84), none, some (.int v2)] [] h := by
  refine g_aload_n d_288_73 rfl rfl ?_
  refine g_iconst (v := 0) d_288_74 (by decide) ?_
  refine g_iload_n d_288_75 rfl rfl ?_
  exact g_callVI (mj := 288) 9 [.int 0, .int v2] [] d_288_76 wd_546 mo_288 mc_288 mv_288 rfl rfl rfl (Nat.le_of_ble_eq_true rfl) rfl hdd hC (fun x h' q => g_mask [false, false, false] (kk x h' q))

theorem k_288_79 {X : GX} {d : Nat} {h : Hp} {s0 : Int32} (hq : RtX X (some (.int (s0 * 2))) h) : G X d 288 79 [none, none, none] [.int s0] h := by
  refine g_iconst (v := 2) d_288_79 (by decide) ?_
  refine g_imul d_288_80 ?_
  exact g_reti d_288_81 rfl hq

theorem k_288_82 {X : GX} {d : Nat} {h : Hp} {v2 : Int32} {d' : Nat} {Q' : Hp → Prop} (hdd : d' < d) (hC : CV d' 287 [.ref 84, .int 60] h Q') (kk : ∀ h', Q' h' → G X d 288 88 [some (.ref 84), none, some (.int v2)] [] h') : G X d 288 82 [some (.ref 84), none, some (.int v2)] [] h := by
  refine g_aload_n d_288_82 rfl rfl ?_
  refine g_bipush (v := 60) d_288_83 (by decide) ?_
  exact g_callVV (mj := 287) 9 [.int 60] [] d_288_85 wd_545 mo_287 mc_287 mv_287 rfl rfl rfl (Nat.le_of_ble_eq_true rfl) rfl hdd hC kk

theorem k_288_88 {X : GX} {d : Nat} {h : Hp} {v2 : Int32} {d' : Nat} {Q' : Int32 → Hp → Prop} (hdd : d' < d) (hC : CI d' 288 [.ref 84, .int 4, .int v2] h Q') (kk : ∀ x h', Q' x h' → G X d 288 95 [none, none, none] [.int x, .int 0] h') : G X d 288 88 [some (.ref 84), none, some (.int v2)] [] h := by
  refine g_iconst (v := 0) d_288_88 (by decide) ?_
  refine g_aload_n d_288_89 rfl rfl ?_
  refine g_iconst (v := 4) d_288_90 (by decide) ?_
  refine g_iload_n d_288_91 rfl rfl ?_
  exact g_callVI (mj := 288) 9 [.int 4, .int v2] [.int 0] d_288_92 wd_546 mo_288 mc_288 mv_288 rfl rfl rfl (Nat.le_of_ble_eq_true rfl) rfl hdd hC (fun x h' q => g_mask [false, false, false] (kk x h' q))

theorem k_288_95 {X : GX} {d : Nat} {h : Hp} {s0 : Int32} {s1 : Int32} (hq : RtX X (some (.int (s1 - s0))) h) : G X d 288 95 [none, none, none] [.int s0, .int s1] h := by
  refine g_isub d_288_95 ?_
  exact g_reti d_288_96 rfl hq

theorem k_288_97 {X : GX} {d : Nat} {h : Hp} {v1 : Int32} {v2 : Int32} {d' : Nat} {Q' : Int32 → Hp → Prop} (hdd : d' < d) (hC : CI d' 192 [.int v1] h Q') (kk : ∀ x h', Q' x h' → G X d 288 102 [none, none, some (.int v2)] [.int x, .ref 84] h') : G X d 288 97 [some (.ref 84), some (.int v1), some (.int v2)] [] h := by
  refine g_aload_n d_288_97 rfl rfl ?_
  refine g_iload_n d_288_98 rfl rfl ?_
  exact g_callSI (mj := 192) [.int v1] [.ref 84] d_288_99 wd_412 mo_192 mc_192 mv_192 rfl rfl (Nat.le_of_ble_eq_true rfl)  hdd hC (fun x h' q => g_mask [false, false, true] (kk x h' q))

theorem k_288_102 {X : GX} {d : Nat} {h : Hp} {v2 : Int32} {s0 : Int32} {s1 : Nat} {d' : Nat} {Q' : Int32 → Hp → Prop} (o0 : sh s1 = (1, 9)) (hdd : d' < d) (hC : CI d' 288 [.ref s1, .int s0, .int v2] h Q') (kk : ∀ x h', Q' x h' → G X d 288 106 [none, none, none] [.int x] h') : G X d 288 102 [none, none, some (.int v2)] [.int s0, .ref s1] h := by
  refine g_iload_n d_288_102 rfl rfl ?_
  exact g_callVI (mj := 288) 9 [.int s0, .int v2] [] d_288_103 wd_546 mo_288 mc_288 mv_288 rfl rfl rfl (Nat.le_of_ble_eq_true rfl) o0 hdd hC (fun x h' q => g_mask [false, false, false] (kk x h' q))

theorem k_288_106 {X : GX} {d : Nat} {h : Hp} {s0 : Int32} (hq : RtX X (some (.int s0)) h) : G X d 288 106 [none, none, none] [.int s0] h := by
  exact g_reti d_288_106 rfl hq

/-! 289 PlayedTruthModel.halvesBy(II)I -/
theorem k_289_0 {X : GX} {d : Nat} {h : Hp} {v1 : Int32} {v2 : Int32} (k0 : v1 = 0 → G X d 289 36 [some (.ref 84), none, some (.int v2), none] [] h) (k1 : v1 = 4 → G X d 289 91 [some (.ref 84), none, some (.int v2), none] [] h) (k2 : v1 = 5 → G X d 289 107 [some (.ref 84), none, some (.int v2), none] [] h) (kd : ¬ v1 = 0 → ¬ v1 = 4 → ¬ v1 = 5 → G X d 289 140 [some (.ref 84), some (.int v1), some (.int v2), none] [] h) : G X d 289 0 [some (.ref 84), some (.int v1), some (.int v2), none] [] h := by
  refine g_iconst (v := 0) d_289_0 (by decide) ?_
  refine g_istore_n d_289_1 rfl (Nat.le_of_ble_eq_true rfl) rfl ?_
  refine g_iload_n d_289_2 rfl rfl ?_
  exact g_lookup (tls := [(0, 36), (4, 91), (5, 107)]) (df := 140) d_289_3 (by decide +kernel) ⟨fun q => g_mask [true, false, true, false] (k0 q), fun n0 => ⟨fun q => g_mask [true, false, true, false] (k1 q), fun n1 => ⟨fun q => g_mask [true, false, true, false] (k2 q), fun n2 => (g_mask [true, true, true, false] (kd n0 n1 n2))⟩⟩⟩

theorem k_289_36 {X : GX} {d : Nat} {h : Hp} {v2 : Int32} {d' : Nat} {Q' : Hp → Prop} (hdd : d' < d) (hC : CV d' 287 [.ref 84, .int 12] h Q') (kk : ∀ h', Q' h' → G X d 289 42 [some (.ref 84), none, some (.int v2), none] [] h') : G X d 289 36 [some (.ref 84), none, some (.int v2), none] [] h := by
  refine g_aload_n d_289_36 rfl rfl ?_
  refine g_bipush (v := 12) d_289_37 (by decide) ?_
  exact g_callVV (mj := 287) 9 [.int 12] [] d_289_39 wd_545 mo_287 mc_287 mv_287 rfl rfl rfl (Nat.le_of_ble_eq_true rfl) rfl hdd hC kk

theorem k_289_42 {X : GX} {d : Nat} {h : Hp} {v2 : Int32} {d' : Nat} {Q' : Int32 → Hp → Prop} (hdd : d' < d) (hC : CI d' 182 [.ref 84, .int (h 84 36), .int 3] h Q') (kk : ∀ x h', Q' x h' → G X d 289 51 [some (.ref 84), none, some (.int v2), none] [.int x] h') : G X d 289 42 [some (.ref 84), none, some (.int v2), none] [] h := by
  refine g_aload_n d_289_42 rfl rfl ?_
  refine g_aload_n d_289_43 rfl rfl ?_
  refine g_getf (ci := 9) (k := 36) d_289_44 wd_391 (Nat.le_of_ble_eq_true rfl) rfl rfl ?_
  refine g_iconst (v := 3) d_289_47 (by decide) ?_
  exact g_callVI (mj := 182) 9 [.int (h 84 36), .int 3] [] d_289_48 wd_402 mo_182 mc_182 mv_182 rfl rfl rfl (Nat.le_of_ble_eq_true rfl) rfl hdd hC kk

theorem k_289_51 {X : GX} {d : Nat} {h : Hp} {v2 : Int32} {s0 : Int32} (kt : ¬ (h 84 37) = 0 → G X d 289 71 [none, none, some (.int v2), some (.int ((s0 + (h 84 36)) - 3))] [.ref 84] h) (kf : (h 84 37) = 0 → G X d 289 67 [none, none, some (.int v2), some (.int ((s0 + (h 84 36)) - 3))] [.ref 84] h) : G X d 289 51 [some (.ref 84), none, some (.int v2), none] [.int s0] h := by
  refine g_aload_n d_289_51 rfl rfl ?_
  refine g_getf (ci := 9) (k := 36) d_289_52 wd_391 (Nat.le_of_ble_eq_true rfl) rfl rfl ?_
  refine g_iadd d_289_55 ?_
  refine g_iconst (v := 3) d_289_56 (by decide) ?_
  refine g_isub d_289_57 ?_
  refine g_istore_n d_289_58 rfl (Nat.le_of_ble_eq_true rfl) rfl ?_
  refine g_aload_n d_289_59 rfl rfl ?_
  refine g_aload_n d_289_60 rfl rfl ?_
  refine g_getf (ci := 9) (k := 37) d_289_61 wd_392 (Nat.le_of_ble_eq_true rfl) rfl rfl ?_
  exact g_if_ne (tgt := 71) d_289_64 (by decide) (fun q => g_mask [false, false, true, true] (kt q)) (fun q => g_mask [false, false, true, true] (kf q))

theorem k_289_67 {X : GX} {d : Nat} {h : Hp} {v2 : Int32} {v3 : Int32} {s0 : Nat} (kt : ¬ v3 = 0 → G X d 289 75 [none, none, some (.int v2), some (.int v3)] [.ref s0] h) (kf : v3 = 0 → G X d 289 71 [none, none, some (.int v2), some (.int v3)] [.ref s0] h) : G X d 289 67 [none, none, some (.int v2), some (.int v3)] [.ref s0] h := by
  refine g_iload_n d_289_67 rfl rfl ?_
  exact g_if_ne (tgt := 75) d_289_68 (by decide) kt kf

theorem k_289_71 {X : GX} {d : Nat} {h : Hp} {v2 : Int32} {v3 : Int32} {s0 : Nat} (o0 : sh s0 = (1, 9)) (kt : ¬ v3 = 0 → G X d 289 87 [none, none, some (.int v2), some (.int v3)] [] (wr h s0 37 1)) (kf : v3 = 0 → G X d 289 83 [none, none, none, none] [] (wr h s0 37 1)) : G X d 289 71 [none, none, some (.int v2), some (.int v3)] [.ref s0] h := by
  refine g_iconst (v := 1) d_289_71 (by decide) ?_
  refine g_goto (tgt := 76) d_289_72 (by decide) ?_
  refine g_putf (ci := 9) (k := 37) d_289_76 wd_392 (Nat.le_of_ble_eq_true rfl) (Nat.le_of_ble_eq_true rfl) rfl rfl (Or.inr ⟨rfl, rfl, z01_1⟩) o0 ?_
  refine g_iload_n d_289_79 rfl rfl ?_
  exact g_if_ne (tgt := 87) d_289_80 (by decide) kt (fun q => g_mask [false, false, false, false] (kf q))

theorem k_289_75 {X : GX} {d : Nat} {h : Hp} {v2 : Int32} {v3 : Int32} {s0 : Nat} (o0 : sh s0 = (1, 9)) (kt : ¬ v3 = 0 → G X d 289 87 [none, none, some (.int v2), some (.int v3)] [] (wr h s0 37 0)) (kf : v3 = 0 → G X d 289 83 [none, none, none, none] [] (wr h s0 37 0)) : G X d 289 75 [none, none, some (.int v2), some (.int v3)] [.ref s0] h := by
  refine g_iconst (v := 0) d_289_75 (by decide) ?_
  refine g_putf (ci := 9) (k := 37) d_289_76 wd_392 (Nat.le_of_ble_eq_true rfl) (Nat.le_of_ble_eq_true rfl) rfl rfl (Or.inr ⟨rfl, rfl, z01_0⟩) o0 ?_
  refine g_iload_n d_289_79 rfl rfl ?_
  exact g_if_ne (tgt := 87) d_289_80 (by decide) kt (fun q => g_mask [false, false, false, false] (kf q))

theorem k_289_83 {X : GX} {d : Nat} {h : Hp} (hq : RtX X (some (.int 0)) h) : G X d 289 83 [none, none, none, none] [] h := by
  refine g_iconst (v := 0) d_289_83 (by decide) ?_
  refine g_goto (tgt := 90) d_289_84 (by decide) ?_
  exact g_reti d_289_90 rfl hq

theorem k_289_87 {X : GX} {d : Nat} {h : Hp} {v2 : Int32} {v3 : Int32} (n0 : ¬ v3 = 0) (hq : RtX X (some (.int (v2 / v3))) h) : G X d 289 87 [none, none, some (.int v2), some (.int v3)] [] h := by
  refine g_iload_n d_289_87 rfl rfl ?_
  refine g_iload_n d_289_88 rfl rfl ?_
  refine g_idiv d_289_89 n0 ?_
  exact g_reti d_289_90 rfl hq

theorem k_289_91 {X : GX} {d : Nat} {h : Hp} {v2 : Int32} {d' : Nat} {Q' : Hp → Prop} (hdd : d' < d) (hC : CV d' 287 [.ref 84, .int 40] h Q') (kk : ∀ h', Q' h' → G X d 289 97 [some (.ref 84), none, some (.int v2), none] [] h') : G X d 289 91 [some (.ref 84), none, some (.int v2), none] [] h := by
  refine g_aload_n d_289_91 rfl rfl ?_
  refine g_bipush (v := 40) d_289_92 (by decide) ?_
  exact g_callVV (mj := 287) 9 [.int 40] [] d_289_94 wd_545 mo_287 mc_287 mv_287 rfl rfl rfl (Nat.le_of_ble_eq_true rfl) rfl hdd hC kk

theorem k_289_97 {X : GX} {d : Nat} {h : Hp} {v2 : Int32} {d' : Nat} {Q' : Int32 → Hp → Prop} (hdd : d' < d) (hC : CI d' 289 [.ref 84, .int 0, .int v2] h Q') (kk : ∀ x h', Q' x h' → G X d 289 103 [none, none, none, none] [.int x] h') : G X d 289 97 [some (.ref 84), none, some (.int v2), none] [] h := by
  refine g_aload_n d_289_97 rfl rfl ?_
  refine g_iconst (v := 0) d_289_98 (by decide) ?_
  refine g_iload_n d_289_99 rfl rfl ?_
  exact g_callVI (mj := 289) 9 [.int 0, .int v2] [] d_289_100 wd_547 mo_289 mc_289 mv_289 rfl rfl rfl (Nat.le_of_ble_eq_true rfl) rfl hdd hC (fun x h' q => g_mask [false, false, false, false] (kk x h' q))

theorem k_289_103 {X : GX} {d : Nat} {h : Hp} {s0 : Int32} (hq : RtX X (some (.int (s0 + 6))) h) : G X d 289 103 [none, none, none, none] [.int s0] h := by
  refine g_bipush (v := 6) d_289_103 (by decide) ?_
  refine g_iadd d_289_105 ?_
  exact g_reti d_289_106 rfl hq

theorem k_289_107 {X : GX} {d : Nat} {h : Hp} {v2 : Int32} {d' : Nat} {Q' : Hp → Prop} (hdd : d' < d) (hC : CV d' 287 [.ref 84, .int 61] h Q') (kk : ∀ h', Q' h' → G X d 289 113 [some (.ref 84), none, some (.int v2), none] [] h') : G X d 289 107 [some (.ref 84), none, some (.int v2), none] [] h := by
  refine g_aload_n d_289_107 rfl rfl ?_
  refine g_bipush (v := 61) d_289_108 (by decide) ?_
  exact g_callVV (mj := 287) 9 [.int 61] [] d_289_110 wd_545 mo_287 mc_287 mv_287 rfl rfl rfl (Nat.le_of_ble_eq_true rfl) rfl hdd hC kk

theorem k_289_113 {X : GX} {d : Nat} {h : Hp} {v2 : Int32} {d' : Nat} {Q' : Int32 → Hp → Prop} (hdd : d' < d) (hC : CI d' 289 [.ref 84, .int 4, .int v2] h Q') (kk : ∀ x h', Q' x h' → G X d 289 119 [some (.ref 84), none, none, none] [.int x] h') : G X d 289 113 [some (.ref 84), none, some (.int v2), none] [] h := by
  refine g_aload_n d_289_113 rfl rfl ?_
  refine g_iconst (v := 4) d_289_114 (by decide) ?_
  refine g_iload_n d_289_115 rfl rfl ?_
  exact g_callVI (mj := 289) 9 [.int 4, .int v2] [] d_289_116 wd_547 mo_289 mc_289 mv_289 rfl rfl rfl (Nat.le_of_ble_eq_true rfl) rfl hdd hC (fun x h' q => g_mask [true, false, false, false] (kk x h' q))

theorem k_289_119 {X : GX} {d : Nat} {h : Hp} {s0 : Int32} {d' : Nat} {Q' : Int32 → Hp → Prop} (hdd : d' < d) (hC : CI d' 182 [.ref 84, .int (h 84 36), .int 0] h Q') (kk : ∀ x h', Q' x h' → G X d 289 131 [some (.ref 84), none, none, none] [.int x, .ref 84, .int s0] h') : G X d 289 119 [some (.ref 84), none, none, none] [.int s0] h := by
  refine g_istore_n d_289_119 rfl (Nat.le_of_ble_eq_true rfl) rfl ?_
  refine g_iload_n d_289_120 rfl rfl ?_
  refine g_aload_n d_289_121 rfl rfl ?_
  refine g_aload_n d_289_122 rfl rfl ?_
  refine g_aload_n d_289_123 rfl rfl ?_
  refine g_getf (ci := 9) (k := 36) d_289_124 wd_391 (Nat.le_of_ble_eq_true rfl) rfl rfl ?_
  refine g_iconst (v := 0) d_289_127 (by decide) ?_
  exact g_callVI (mj := 182) 9 [.int (h 84 36), .int 0] [.ref 84, .int s0] d_289_128 wd_402 mo_182 mc_182 mv_182 rfl rfl rfl (Nat.le_of_ble_eq_true rfl) rfl hdd hC (fun x h' q => g_mask [true, false, false, false] (kk x h' q))

theorem k_289_131 {X : GX} {d : Nat} {h : Hp} {s0 : Int32} {s1 : Nat} {s2 : Int32} {d' : Nat} {Q' : Int32 → Hp → Prop} (o0 : sh s1 = (1, 9)) (hdd : d' < d) (hC : CI d' 286 [.ref s1, .int s0, .int (h 84 36)] h Q') (kk : ∀ x h', Q' x h' → G X d 289 138 [none, none, none, none] [.int x, .int s2] h') : G X d 289 131 [some (.ref 84), none, none, none] [.int s0, .ref s1, .int s2] h := by
  refine g_aload_n d_289_131 rfl rfl ?_
  refine g_getf (ci := 9) (k := 36) d_289_132 wd_391 (Nat.le_of_ble_eq_true rfl) rfl rfl ?_
  exact g_callVI (mj := 286) 9 [.int s0, .int (h 84 36)] [.int s2] d_289_135 wd_544 mo_286 mc_286 mv_286 rfl rfl rfl (Nat.le_of_ble_eq_true rfl) o0 hdd hC (fun x h' q => g_mask [false, false, false, false] (kk x h' q))

theorem k_289_138 {X : GX} {d : Nat} {h : Hp} {s0 : Int32} {s1 : Int32} (hq : RtX X (some (.int (s1 ^^^ s0))) h) : G X d 289 138 [none, none, none, none] [.int s0, .int s1] h := by
  refine g_ixor d_289_138 ?_
  exact g_reti d_289_139 rfl hq

theorem k_289_140 {X : GX} {d : Nat} {h : Hp} {v1 : Int32} {v2 : Int32} {d' : Nat} {Q' : Int32 → Hp → Prop} (hdd : d' < d) (hC : CI d' 192 [.int v1] h Q') (kk : ∀ x h', Q' x h' → G X d 289 145 [none, none, some (.int v2), none] [.int x, .ref 84] h') : G X d 289 140 [some (.ref 84), some (.int v1), some (.int v2), none] [] h := by
  refine g_aload_n d_289_140 rfl rfl ?_
  refine g_iload_n d_289_141 rfl rfl ?_
  exact g_callSI (mj := 192) [.int v1] [.ref 84] d_289_142 wd_412 mo_192 mc_192 mv_192 rfl rfl (Nat.le_of_ble_eq_true rfl)  hdd hC (fun x h' q => g_mask [false, false, true, false] (kk x h' q))

theorem k_289_145 {X : GX} {d : Nat} {h : Hp} {v2 : Int32} {s0 : Int32} {s1 : Nat} {d' : Nat} {Q' : Int32 → Hp → Prop} (o0 : sh s1 = (1, 9)) (hdd : d' < d) (hC : CI d' 289 [.ref s1, .int s0, .int v2] h Q') (kk : ∀ x h', Q' x h' → G X d 289 149 [none, none, none, none] [.int x] h') : G X d 289 145 [none, none, some (.int v2), none] [.int s0, .ref s1] h := by
  refine g_iload_n d_289_145 rfl rfl ?_
  exact g_callVI (mj := 289) 9 [.int s0, .int v2] [] d_289_146 wd_547 mo_289 mc_289 mv_289 rfl rfl rfl (Nat.le_of_ble_eq_true rfl) o0 hdd hC (fun x h' q => g_mask [false, false, false, false] (kk x h' q))

theorem k_289_149 {X : GX} {d : Nat} {h : Hp} {s0 : Int32} (hq : RtX X (some (.int s0)) h) : G X d 289 149 [none, none, none, none] [.int s0] h := by
  exact g_reti d_289_149 rfl hq

/-! 290 PlayedTruthModel.exitsBy(II)I -/
theorem k_290_0 {X : GX} {d : Nat} {h : Hp} {v1 : Int32} {v2 : Int32} (k0 : v1 = 0 → G X d 290 28 [some (.ref 84), none, some (.int v2), none] [] h) (k1 : v1 = 3 → G X d 290 66 [some (.ref 84), none, some (.int v2), none] [] h) (kd : ¬ v1 = 0 → ¬ v1 = 3 → G X d 290 104 [some (.ref 84), some (.int v1), some (.int v2), none] [] h) : G X d 290 0 [some (.ref 84), some (.int v1), some (.int v2), none] [] h := by
  refine g_iconst (v := 0) d_290_0 (by decide) ?_
  refine g_istore_n d_290_1 rfl (Nat.le_of_ble_eq_true rfl) rfl ?_
  refine g_iload_n d_290_2 rfl rfl ?_
  exact g_lookup (tls := [(0, 28), (3, 66)]) (df := 104) d_290_3 (by decide +kernel) ⟨fun q => g_mask [true, false, true, false] (k0 q), fun n0 => ⟨fun q => g_mask [true, false, true, false] (k1 q), fun n1 => (g_mask [true, true, true, false] (kd n0 n1))⟩⟩

theorem k_290_28 {X : GX} {d : Nat} {h : Hp} {v2 : Int32} {d' : Nat} {Q' : Hp → Prop} (hdd : d' < d) (hC : CV d' 287 [.ref 84, .int 13] h Q') (kk : ∀ h', Q' h' → G X d 290 34 [some (.ref 84), none, some (.int v2), none] [] h') : G X d 290 28 [some (.ref 84), none, some (.int v2), none] [] h := by
  refine g_aload_n d_290_28 rfl rfl ?_
  refine g_bipush (v := 13) d_290_29 (by decide) ?_
  exact g_callVV (mj := 287) 9 [.int 13] [] d_290_31 wd_545 mo_287 mc_287 mv_287 rfl rfl rfl (Nat.le_of_ble_eq_true rfl) rfl hdd hC kk

theorem k_290_34 {X : GX} {d : Nat} {h : Hp} {v2 : Int32} {d' : Nat} {Q' : Int32 → Hp → Prop} (hdd : d' < d) (hC : CI d' 182 [.ref 84, .int (h 84 36), .int 0] h Q') (kk : ∀ x h', Q' x h' → G X d 290 44 [some (.ref 84), none, some (.int v2), none] [.int x, .ref 84] h') : G X d 290 34 [some (.ref 84), none, some (.int v2), none] [] h := by
  refine g_aload_n d_290_34 rfl rfl ?_
  refine g_aload_n d_290_35 rfl rfl ?_
  refine g_aload_n d_290_36 rfl rfl ?_
  refine g_getf (ci := 9) (k := 36) d_290_37 wd_391 (Nat.le_of_ble_eq_true rfl) rfl rfl ?_
  refine g_iconst (v := 0) d_290_40 (by decide) ?_
  exact g_callVI (mj := 182) 9 [.int (h 84 36), .int 0] [.ref 84] d_290_41 wd_402 mo_182 mc_182 mv_182 rfl rfl rfl (Nat.le_of_ble_eq_true rfl) rfl hdd hC kk

theorem k_290_44 {X : GX} {d : Nat} {h : Hp} {v2 : Int32} {s0 : Int32} {s1 : Nat} {d' : Nat} {Q' : Int32 → Hp → Prop} (o0 : sh s1 = (1, 9)) (hdd : d' < d) (hC : CI d' 288 [.ref s1, .int s0, .int v2] h Q') (kk : ∀ x h', Q' x h' → G X d 290 48 [some (.ref 84), none, some (.int v2), none] [.int x] h') : G X d 290 44 [some (.ref 84), none, some (.int v2), none] [.int s0, .ref s1] h := by
  refine g_iload_n d_290_44 rfl rfl ?_
  exact g_callVI (mj := 288) 9 [.int s0, .int v2] [] d_290_45 wd_546 mo_288 mc_288 mv_288 rfl rfl rfl (Nat.le_of_ble_eq_true rfl) o0 hdd hC kk

theorem k_290_48 {X : GX} {d : Nat} {h : Hp} {v2 : Int32} {s0 : Int32} {d' : Nat} {Q' : Int32 → Hp → Prop} (hdd : d' < d) (hC : CI d' 182 [.ref 84, .int (h 84 36), .int 0] h Q') (kk : ∀ x h', Q' x h' → G X d 290 60 [none, none, some (.int v2), none] [.int x, .ref 84, .int s0] h') : G X d 290 48 [some (.ref 84), none, some (.int v2), none] [.int s0] h := by
  refine g_istore_n d_290_48 rfl (Nat.le_of_ble_eq_true rfl) rfl ?_
  refine g_iload_n d_290_49 rfl rfl ?_
  refine g_aload_n d_290_50 rfl rfl ?_
  refine g_aload_n d_290_51 rfl rfl ?_
  refine g_aload_n d_290_52 rfl rfl ?_
  refine g_getf (ci := 9) (k := 36) d_290_53 wd_391 (Nat.le_of_ble_eq_true rfl) rfl rfl ?_
  refine g_iconst (v := 0) d_290_56 (by decide) ?_
  exact g_callVI (mj := 182) 9 [.int (h 84 36), .int 0] [.ref 84, .int s0] d_290_57 wd_402 mo_182 mc_182 mv_182 rfl rfl rfl (Nat.le_of_ble_eq_true rfl) rfl hdd hC (fun x h' q => g_mask [false, false, true, false] (kk x h' q))

theorem k_290_60 {X : GX} {d : Nat} {h : Hp} {v2 : Int32} {s0 : Int32} {s1 : Nat} {s2 : Int32} {d' : Nat} {Q' : Int32 → Hp → Prop} (o0 : sh s1 = (1, 9)) (hdd : d' < d) (hC : CI d' 289 [.ref s1, .int s0, .int v2] h Q') (kk : ∀ x h', Q' x h' → G X d 290 64 [none, none, none, none] [.int x, .int s2] h') : G X d 290 60 [none, none, some (.int v2), none] [.int s0, .ref s1, .int s2] h := by
  refine g_iload_n d_290_60 rfl rfl ?_
  exact g_callVI (mj := 289) 9 [.int s0, .int v2] [.int s2] d_290_61 wd_547 mo_289 mc_289 mv_289 rfl rfl rfl (Nat.le_of_ble_eq_true rfl) o0 hdd hC (fun x h' q => g_mask [false, false, false, false] (kk x h' q))

theorem k_290_64 {X : GX} {d : Nat} {h : Hp} {s0 : Int32} {s1 : Int32} (hq : RtX X (some (.int (s1 + s0))) h) : G X d 290 64 [none, none, none, none] [.int s0, .int s1] h := by
  refine g_iadd d_290_64 ?_
  exact g_reti d_290_65 rfl hq

theorem k_290_66 {X : GX} {d : Nat} {h : Hp} {v2 : Int32} {d' : Nat} {Q' : Hp → Prop} (hdd : d' < d) (hC : CV d' 287 [.ref 84, .int 51] h Q') (kk : ∀ h', Q' h' → G X d 290 72 [some (.ref 84), none, some (.int v2), none] [] h') : G X d 290 66 [some (.ref 84), none, some (.int v2), none] [] h := by
  refine g_aload_n d_290_66 rfl rfl ?_
  refine g_bipush (v := 51) d_290_67 (by decide) ?_
  exact g_callVV (mj := 287) 9 [.int 51] [] d_290_69 wd_545 mo_287 mc_287 mv_287 rfl rfl rfl (Nat.le_of_ble_eq_true rfl) rfl hdd hC kk

theorem k_290_72 {X : GX} {d : Nat} {h : Hp} {v2 : Int32} {d' : Nat} {Q' : Int32 → Hp → Prop} (hdd : d' < d) (hC : CI d' 290 [.ref 84, .int 2, .int v2] h Q') (kk : ∀ x h', Q' x h' → G X d 290 78 [some (.ref 84), none, none, none] [.int x] h') : G X d 290 72 [some (.ref 84), none, some (.int v2), none] [] h := by
  refine g_aload_n d_290_72 rfl rfl ?_
  refine g_iconst (v := 2) d_290_73 (by decide) ?_
  refine g_iload_n d_290_74 rfl rfl ?_
  exact g_callVI (mj := 290) 9 [.int 2, .int v2] [] d_290_75 wd_548 mo_290 mc_290 mv_290 rfl rfl rfl (Nat.le_of_ble_eq_true rfl) rfl hdd hC (fun x h' q => g_mask [true, false, false, false] (kk x h' q))

theorem k_290_78 {X : GX} {d : Nat} {h : Hp} {s0 : Int32} {d' : Nat} {Q' : Int32 → Hp → Prop} (hdd : d' < d) (hC : CI d' 182 [.ref 84, .int (h 84 36), .int 0] h Q') (kk : ∀ x h', Q' x h' → G X d 290 90 [some (.ref 84), none, none, none] [.int x, .ref 84, .int s0] h') : G X d 290 78 [some (.ref 84), none, none, none] [.int s0] h := by
  refine g_istore_n d_290_78 rfl (Nat.le_of_ble_eq_true rfl) rfl ?_
  refine g_iload_n d_290_79 rfl rfl ?_
  refine g_aload_n d_290_80 rfl rfl ?_
  refine g_aload_n d_290_81 rfl rfl ?_
  refine g_aload_n d_290_82 rfl rfl ?_
  refine g_getf (ci := 9) (k := 36) d_290_83 wd_391 (Nat.le_of_ble_eq_true rfl) rfl rfl ?_
  refine g_iconst (v := 0) d_290_86 (by decide) ?_
  exact g_callVI (mj := 182) 9 [.int (h 84 36), .int 0] [.ref 84, .int s0] d_290_87 wd_402 mo_182 mc_182 mv_182 rfl rfl rfl (Nat.le_of_ble_eq_true rfl) rfl hdd hC (fun x h' q => g_mask [true, false, false, false] (kk x h' q))

theorem k_290_90 {X : GX} {d : Nat} {h : Hp} {s0 : Int32} {s1 : Nat} {s2 : Int32} {d' : Nat} {Q' : Int32 → Hp → Prop} (hdd : d' < d) (hC : CI d' 182 [.ref 84, .int (h 84 36), .int 3] h Q') (kk : ∀ x h', Q' x h' → G X d 290 99 [none, none, none, none] [.int x, .int s0, .ref s1, .int s2] h') : G X d 290 90 [some (.ref 84), none, none, none] [.int s0, .ref s1, .int s2] h := by
  refine g_aload_n d_290_90 rfl rfl ?_
  refine g_aload_n d_290_91 rfl rfl ?_
  refine g_getf (ci := 9) (k := 36) d_290_92 wd_391 (Nat.le_of_ble_eq_true rfl) rfl rfl ?_
  refine g_iconst (v := 3) d_290_95 (by decide) ?_
  exact g_callVI (mj := 182) 9 [.int (h 84 36), .int 3] [.int s0, .ref s1, .int s2] d_290_96 wd_402 mo_182 mc_182 mv_182 rfl rfl rfl (Nat.le_of_ble_eq_true rfl) rfl hdd hC (fun x h' q => g_mask [false, false, false, false] (kk x h' q))

theorem k_290_99 {X : GX} {d : Nat} {h : Hp} {s0 : Int32} {s1 : Int32} {s2 : Nat} {s3 : Int32} {d' : Nat} {Q' : Int32 → Hp → Prop} (o0 : sh s2 = (1, 9)) (hdd : d' < d) (hC : CI d' 288 [.ref s2, .int s1, .int s0] h Q') (kk : ∀ x h', Q' x h' → G X d 290 102 [none, none, none, none] [.int x, .int s3] h') : G X d 290 99 [none, none, none, none] [.int s0, .int s1, .ref s2, .int s3] h := by
  exact g_callVI (mj := 288) 9 [.int s1, .int s0] [.int s3] d_290_99 wd_546 mo_288 mc_288 mv_288 rfl rfl rfl (Nat.le_of_ble_eq_true rfl) o0 hdd hC kk

theorem k_290_102 {X : GX} {d : Nat} {h : Hp} {s0 : Int32} {s1 : Int32} (hq : RtX X (some (.int (s1 - s0))) h) : G X d 290 102 [none, none, none, none] [.int s0, .int s1] h := by
  refine g_isub d_290_102 ?_
  exact g_reti d_290_103 rfl hq

theorem k_290_104 {X : GX} {d : Nat} {h : Hp} {v1 : Int32} {v2 : Int32} {d' : Nat} {Q' : Int32 → Hp → Prop} (hdd : d' < d) (hC : CI d' 192 [.int v1] h Q') (kk : ∀ x h', Q' x h' → G X d 290 109 [none, none, some (.int v2), none] [.int x, .ref 84] h') : G X d 290 104 [some (.ref 84), some (.int v1), some (.int v2), none] [] h := by
  refine g_aload_n d_290_104 rfl rfl ?_
  refine g_iload_n d_290_105 rfl rfl ?_
  exact g_callSI (mj := 192) [.int v1] [.ref 84] d_290_106 wd_412 mo_192 mc_192 mv_192 rfl rfl (Nat.le_of_ble_eq_true rfl)  hdd hC (fun x h' q => g_mask [false, false, true, false] (kk x h' q))

theorem k_290_109 {X : GX} {d : Nat} {h : Hp} {v2 : Int32} {s0 : Int32} {s1 : Nat} {d' : Nat} {Q' : Int32 → Hp → Prop} (o0 : sh s1 = (1, 9)) (hdd : d' < d) (hC : CI d' 290 [.ref s1, .int s0, .int v2] h Q') (kk : ∀ x h', Q' x h' → G X d 290 113 [none, none, none, none] [.int x] h') : G X d 290 109 [none, none, some (.int v2), none] [.int s0, .ref s1] h := by
  refine g_iload_n d_290_109 rfl rfl ?_
  exact g_callVI (mj := 290) 9 [.int s0, .int v2] [] d_290_110 wd_548 mo_290 mc_290 mv_290 rfl rfl rfl (Nat.le_of_ble_eq_true rfl) o0 hdd hC (fun x h' q => g_mask [false, false, false, false] (kk x h' q))

theorem k_290_113 {X : GX} {d : Nat} {h : Hp} {s0 : Int32} (hq : RtX X (some (.int s0)) h) : G X d 290 113 [none, none, none, none] [.int s0] h := by
  exact g_reti d_290_113 rfl hq

/-! 291 PlayedTruthModel.trace(I)I -/
theorem k_291_0 {X : GX} {d : Nat} {h : Hp} {v1 : Int32} {d' : Nat} {Q' : Int32 → Hp → Prop} (hdd : d' < d) (hC : CI d' 177 [.long (Int32.toInt64 v1), .long 0, .long (Int32.toInt64 ((h 84 35) - 1))] h Q') (kk : ∀ x h', Q' x h' → G X d 291 13 [some (.ref 84), some (.int v1)] [.int x] h') : G X d 291 0 [some (.ref 84), some (.int v1)] [] h := by
  refine g_iload_n d_291_0 rfl rfl ?_
  refine g_i2l d_291_1 ?_
  refine g_lconst (v := 0) d_291_2 (by decide) ?_
  refine g_aload_n d_291_3 rfl rfl ?_
  refine g_getf (ci := 9) (k := 35) d_291_4 wd_390 (Nat.le_of_ble_eq_true rfl) rfl rfl ?_
  refine g_iconst (v := 1) d_291_7 (by decide) ?_
  refine g_isub d_291_8 ?_
  refine g_i2l d_291_9 ?_
  exact g_callSI (mj := 177) [.long (Int32.toInt64 v1), .long 0, .long (Int32.toInt64 ((h 84 35) - 1))] [] d_291_10 wd_395 mo_177 mc_177 mv_177 rfl rfl (Nat.le_of_ble_eq_true rfl)  hdd hC kk

theorem k_291_13 {X : GX} {d : Nat} {h : Hp} {v1 : Int32} {s0 : Int32} (kt : s0 = 0 → G X d 291 25 [none, none] [] h) (kf : ¬ s0 = 0 → G X d 291 16 [some (.ref 84), some (.int v1)] [] h) : G X d 291 13 [some (.ref 84), some (.int v1)] [.int s0] h := by
  exact g_if_eq (tgt := 25) d_291_13 (by decide) (fun q => g_mask [false, false] (kt q)) kf

theorem k_291_16 {X : GX} {d : Nat} {h : Hp} {v1 : Int32} (b0 : IA 100 v1) (hq : RtX X (some (.int (h 100 (Int32.toNatClampNeg v1)))) h) : G X d 291 16 [some (.ref 84), some (.int v1)] [] h := by
  refine g_aload_n d_291_16 rfl rfl ?_
  refine g_getf (ci := 9) (k := 34) d_291_17 wd_389 (Nat.le_of_ble_eq_true rfl) rfl rfl ?_
  refine g_iload_n d_291_20 rfl rfl ?_
  refine g_iald d_291_21 b0 ?_
  refine g_goto (tgt := 27) d_291_22 (by decide) ?_
  exact g_reti d_291_27 rfl hq

theorem k_291_25 {X : GX} {d : Nat} {h : Hp} (hq : RtX X (some (.int ((-3)))) h) : G X d 291 25 [none, none] [] h := by
  refine g_bipush (v := (-3)) d_291_25 (by decide) ?_
  exact g_reti d_291_27 rfl hq

/-! 292 PlayedTruthModel.many(I)I -/
theorem k_292_0 {X : GX} {d : Nat} {h : Hp} {v1 : Int32} (k0 : v1 = 0 → G X d 292 44 [some (.ref 84), none] [] h) (k1 : v1 = 1 → G X d 292 51 [some (.ref 84), none] [] h) (k2 : v1 = 2 → G X d 292 58 [some (.ref 84), none] [] h) (k3 : v1 = 3 → G X d 292 66 [some (.ref 84), none] [] h) (k4 : v1 = 4 → G X d 292 74 [some (.ref 84), none] [] h) (k5 : v1 = 5 → G X d 292 79 [some (.ref 84), none] [] h) (k6 : v1 = 6 → G X d 292 84 [some (.ref 84), none] [] h) (kd : ¬ v1 = 0 → ¬ v1 = 1 → ¬ v1 = 2 → ¬ v1 = 3 → ¬ v1 = 4 → ¬ v1 = 5 → ¬ v1 = 6 → G X d 292 89 [none, none] [] h) : G X d 292 0 [some (.ref 84), some (.int v1)] [] h := by
  refine g_iload_n d_292_0 rfl rfl ?_
  exact g_table (tls := [(0, 44), (1, 51), (2, 58), (3, 66), (4, 74), (5, 79), (6, 84)]) (df := 89) d_292_1 (by decide +kernel) ⟨fun q => g_mask [true, false] (k0 q), fun n0 => ⟨fun q => g_mask [true, false] (k1 q), fun n1 => ⟨fun q => g_mask [true, false] (k2 q), fun n2 => ⟨fun q => g_mask [true, false] (k3 q), fun n3 => ⟨fun q => g_mask [true, false] (k4 q), fun n4 => ⟨fun q => g_mask [true, false] (k5 q), fun n5 => ⟨fun q => g_mask [true, false] (k6 q), fun n6 => (g_mask [false, false] (kd n0 n1 n2 n3 n4 n5 n6))⟩⟩⟩⟩⟩⟩⟩

theorem k_292_44 {X : GX} {d : Nat} {h : Hp} (b0 : IA 85 0) (hq : RtX X (some (.int (h 85 (Int32.toNatClampNeg 0)))) h) : G X d 292 44 [some (.ref 84), none] [] h := by
  refine g_aload_n d_292_44 rfl rfl ?_
  refine g_getf (ci := 9) (k := 0) d_292_45 wd_355 (Nat.le_of_ble_eq_true rfl) rfl rfl ?_
  refine g_iconst (v := 0) d_292_48 (by decide) ?_
  refine g_iald d_292_49 b0 ?_
  exact g_reti d_292_50 rfl hq

theorem k_292_51 {X : GX} {d : Nat} {h : Hp} (b0 : IA 85 5) (hq : RtX X (some (.int (h 85 (Int32.toNatClampNeg 5)))) h) : G X d 292 51 [some (.ref 84), none] [] h := by
  refine g_aload_n d_292_51 rfl rfl ?_
  refine g_getf (ci := 9) (k := 0) d_292_52 wd_355 (Nat.le_of_ble_eq_true rfl) rfl rfl ?_
  refine g_iconst (v := 5) d_292_55 (by decide) ?_
  refine g_iald d_292_56 b0 ?_
  exact g_reti d_292_57 rfl hq

theorem k_292_58 {X : GX} {d : Nat} {h : Hp} {d' : Nat} {Q' : Int32 → Hp → Prop} (hdd : d' < d) (hC : CI d' 206 [.ref 84] h Q') (kk : ∀ x h', Q' x h' → G X d 292 62 [none, none] [.int x] h') : G X d 292 58 [some (.ref 84), none] [] h := by
  refine g_aload_n d_292_58 rfl rfl ?_
  exact g_callVI (mj := 206) 9 [] [] d_292_59 wd_428 mo_206 mc_206 mv_206 rfl rfl rfl (Nat.le_of_ble_eq_true rfl) rfl hdd hC (fun x h' q => g_mask [false, false] (kk x h' q))

theorem k_292_62 {X : GX} {d : Nat} {h : Hp} {s0 : Int32} {d' : Nat} {Q' : Int32 → Hp → Prop} (hdd : d' < d) (hC : CI d' 245 [.int s0] h Q') (kk : ∀ x h', Q' x h' → G X d 292 65 [none, none] [.int x] h') : G X d 292 62 [none, none] [.int s0] h := by
  exact g_callSI (mj := 245) [.int s0] [] d_292_62 wd_495 mo_245 mc_245 mv_245 rfl rfl (Nat.le_of_ble_eq_true rfl)  hdd hC kk

theorem k_292_65 {X : GX} {d : Nat} {h : Hp} {s0 : Int32} (hq : RtX X (some (.int s0)) h) : G X d 292 65 [none, none] [.int s0] h := by
  exact g_reti d_292_65 rfl hq

theorem k_292_66 {X : GX} {d : Nat} {h : Hp} (b0 : IA 85 6) (hq : RtX X (some (.int (h 85 (Int32.toNatClampNeg 6)))) h) : G X d 292 66 [some (.ref 84), none] [] h := by
  refine g_aload_n d_292_66 rfl rfl ?_
  refine g_getf (ci := 9) (k := 0) d_292_67 wd_355 (Nat.le_of_ble_eq_true rfl) rfl rfl ?_
  refine g_bipush (v := 6) d_292_70 (by decide) ?_
  refine g_iald d_292_72 b0 ?_
  exact g_reti d_292_73 rfl hq

theorem k_292_74 {X : GX} {d : Nat} {h : Hp} (hq : RtX X (some (.int (h 84 27))) h) : G X d 292 74 [some (.ref 84), none] [] h := by
  refine g_aload_n d_292_74 rfl rfl ?_
  refine g_getf (ci := 9) (k := 27) d_292_75 wd_382 (Nat.le_of_ble_eq_true rfl) rfl rfl ?_
  exact g_reti d_292_78 rfl hq

theorem k_292_79 {X : GX} {d : Nat} {h : Hp} (hq : RtX X (some (.int (h 84 7))) h) : G X d 292 79 [some (.ref 84), none] [] h := by
  refine g_aload_n d_292_79 rfl rfl ?_
  refine g_getf (ci := 9) (k := 7) d_292_80 wd_362 (Nat.le_of_ble_eq_true rfl) rfl rfl ?_
  exact g_reti d_292_83 rfl hq

theorem k_292_84 {X : GX} {d : Nat} {h : Hp} (hq : RtX X (some (.int (h 84 35))) h) : G X d 292 84 [some (.ref 84), none] [] h := by
  refine g_aload_n d_292_84 rfl rfl ?_
  refine g_getf (ci := 9) (k := 35) d_292_85 wd_390 (Nat.le_of_ble_eq_true rfl) rfl rfl ?_
  exact g_reti d_292_88 rfl hq

theorem k_292_89 {X : GX} {d : Nat} {h : Hp} (hq : RtX X (some (.int ((-1)))) h) : G X d 292 89 [none, none] [] h := by
  refine g_iconst (v := (-1)) d_292_89 (by decide) ?_
  exact g_reti d_292_90 rfl hq

/-! 293 PlayedTruthModel.keep()I -/
theorem k_293_0 {X : GX} {d : Nat} {h : Hp} (kk : G X d 293 2 [some (.ref 84), some (.int 0)] [] h) : G X d 293 0 [some (.ref 84), none] [] h := by
  refine g_iconst (v := 0) d_293_0 (by decide) ?_
  refine g_istore_n d_293_1 rfl (Nat.le_of_ble_eq_true rfl) rfl ?_
  exact kk

theorem k_293_2 {X : GX} {d : Nat} {h : Hp} {v1 : Int32} (kt : 361 ≤ v1 → G X d 293 27 [some (.ref 84), none] [] h) (kf : ¬ 361 ≤ v1 → G X d 293 9 [some (.ref 84), some (.int v1)] [] h) : G X d 293 2 [some (.ref 84), some (.int v1)] [] h := by
  refine g_iload_n d_293_2 rfl rfl ?_
  refine g_sipush (v := 361) d_293_3 (by decide) ?_
  exact g_icmp_ge (tgt := 27) d_293_6 (by decide) (fun q => g_mask [true, false] (kt q)) kf

theorem k_293_9 {X : GX} {d : Nat} {h : Hp} {v1 : Int32} (b0 : IA 85 v1) (b1 : IA 86 v1) (kk : G X d 293 2 [some (.ref 84), some (.int (v1 + 1))] [] (wr h 86 (Int32.toNatClampNeg v1) (h 85 (Int32.toNatClampNeg v1)))) : G X d 293 9 [some (.ref 84), some (.int v1)] [] h := by
  refine g_aload_n d_293_9 rfl rfl ?_
  refine g_getf (ci := 9) (k := 1) d_293_10 wd_356 (Nat.le_of_ble_eq_true rfl) rfl rfl ?_
  refine g_iload_n d_293_13 rfl rfl ?_
  refine g_aload_n d_293_14 rfl rfl ?_
  refine g_getf (ci := 9) (k := 0) d_293_15 wd_355 (Nat.le_of_ble_eq_true rfl) rfl rfl ?_
  refine g_iload_n d_293_18 rfl rfl ?_
  refine g_iald d_293_19 b0 ?_
  refine g_iast d_293_20 b1 ?_
  refine g_iinc (w := 1) d_293_21 rfl (by decide) (Nat.le_of_ble_eq_true rfl) rfl ?_
  refine g_goto (tgt := 2) d_293_24 (by decide) ?_
  exact kk

theorem k_293_27 {X : GX} {d : Nat} {h : Hp} (hq : RtX X (some (.int 1)) (wr h 84 2 1)) : G X d 293 27 [some (.ref 84), none] [] h := by
  refine g_aload_n d_293_27 rfl rfl ?_
  refine g_iconst (v := 1) d_293_28 (by decide) ?_
  refine g_putf (ci := 9) (k := 2) d_293_29 wd_357 (Nat.le_of_ble_eq_true rfl) (Nat.le_of_ble_eq_true rfl) rfl rfl (Or.inr ⟨rfl, rfl, z01_1⟩) rfl ?_
  refine g_iconst (v := 1) d_293_32 (by decide) ?_
  exact g_reti d_293_33 rfl hq

/-! 294 PlayedTruthModel.again()I -/
theorem k_294_0 {X : GX} {d : Nat} {h : Hp} (kt : ¬ (h 84 2) = 0 → G X d 294 10 [some (.ref 84), none] [] h) (kf : (h 84 2) = 0 → G X d 294 7 [none, none] [] h) : G X d 294 0 [some (.ref 84), none] [] h := by
  refine g_aload_n d_294_0 rfl rfl ?_
  refine g_getf (ci := 9) (k := 2) d_294_1 wd_357 (Nat.le_of_ble_eq_true rfl) rfl rfl ?_
  exact g_if_ne (tgt := 10) d_294_4 (by decide) kt (fun q => g_mask [false, false] (kf q))

theorem k_294_7 {X : GX} {d : Nat} {h : Hp} (hq : RtX X (some (.int ((-3)))) h) : G X d 294 7 [none, none] [] h := by
  refine g_bipush (v := (-3)) d_294_7 (by decide) ?_
  exact g_reti d_294_9 rfl hq

theorem k_294_10 {X : GX} {d : Nat} {h : Hp} (kk : G X d 294 12 [some (.ref 84), some (.int 0)] [] h) : G X d 294 10 [some (.ref 84), none] [] h := by
  refine g_iconst (v := 0) d_294_10 (by decide) ?_
  refine g_istore_n d_294_11 rfl (Nat.le_of_ble_eq_true rfl) rfl ?_
  exact kk

theorem k_294_12 {X : GX} {d : Nat} {h : Hp} {v1 : Int32} (kt : 361 ≤ v1 → G X d 294 37 [some (.ref 84), none] [] h) (kf : ¬ 361 ≤ v1 → G X d 294 19 [some (.ref 84), some (.int v1)] [] h) : G X d 294 12 [some (.ref 84), some (.int v1)] [] h := by
  refine g_iload_n d_294_12 rfl rfl ?_
  refine g_sipush (v := 361) d_294_13 (by decide) ?_
  exact g_icmp_ge (tgt := 37) d_294_16 (by decide) (fun q => g_mask [true, false] (kt q)) kf

theorem k_294_19 {X : GX} {d : Nat} {h : Hp} {v1 : Int32} (b0 : IA 86 v1) (b1 : IA 85 v1) (kk : G X d 294 12 [some (.ref 84), some (.int (v1 + 1))] [] (wr h 85 (Int32.toNatClampNeg v1) (h 86 (Int32.toNatClampNeg v1)))) : G X d 294 19 [some (.ref 84), some (.int v1)] [] h := by
  refine g_aload_n d_294_19 rfl rfl ?_
  refine g_getf (ci := 9) (k := 0) d_294_20 wd_355 (Nat.le_of_ble_eq_true rfl) rfl rfl ?_
  refine g_iload_n d_294_23 rfl rfl ?_
  refine g_aload_n d_294_24 rfl rfl ?_
  refine g_getf (ci := 9) (k := 1) d_294_25 wd_356 (Nat.le_of_ble_eq_true rfl) rfl rfl ?_
  refine g_iload_n d_294_28 rfl rfl ?_
  refine g_iald d_294_29 b0 ?_
  refine g_iast d_294_30 b1 ?_
  refine g_iinc (w := 1) d_294_31 rfl (by decide) (Nat.le_of_ble_eq_true rfl) rfl ?_
  refine g_goto (tgt := 12) d_294_34 (by decide) ?_
  exact kk

theorem k_294_37 {X : GX} {d : Nat} {h : Hp} (b0 : IA 85 0) (hq : RtX X (some (.int (h 85 (Int32.toNatClampNeg 0)))) h) : G X d 294 37 [some (.ref 84), none] [] h := by
  refine g_aload_n d_294_37 rfl rfl ?_
  refine g_getf (ci := 9) (k := 0) d_294_38 wd_355 (Nat.le_of_ble_eq_true rfl) rfl rfl ?_
  refine g_iconst (v := 0) d_294_41 (by decide) ?_
  refine g_iald d_294_42 b0 ?_
  exact g_reti d_294_43 rfl hq

