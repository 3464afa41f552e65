/-! 10 PlayedTruth.scene(IIII)I -/
theorem k_10_0 {X : GX} {d : Nat} {h : Hp} {v1 : Int32} {v2 : Int32} {v3 : Int32} {v4 : Int32} {d' : Nat} {Q' : Int32 → Hp → Prop} (hdd : d' < d) (hC : CI d' 11 [.int v1, .int 1, .int 5] h Q') (kk : ∀ x h', Q' x h' → G X d 10 6 [some (.ref 0), some (.int v1), some (.int v2), some (.int v3), some (.int v4), none] [.int x] h') : G X d 10 0 [some (.ref 0), some (.int v1), some (.int v2), some (.int v3), some (.int v4), none] [] h := by
  refine g_iload_n d_10_0 rfl rfl ?_
  refine g_iconst (v := 1) d_10_1 (by decide) ?_
  refine g_iconst (v := 5) d_10_2 (by decide) ?_
  exact g_callSI (mj := 11) [.int v1, .int 1, .int 5] [] d_10_3 wd_143 mo_11 mc_11 mv_11 rfl rfl (Nat.le_of_ble_eq_true rfl)  hdd hC kk

theorem k_10_6 {X : GX} {d : Nat} {h : Hp} {v1 : Int32} {v2 : Int32} {v3 : Int32} {v4 : Int32} {s0 : Int32} (kt : s0 = 0 → G X d 10 19 [none, none, none, none, none, none] [] h) (kf : ¬ s0 = 0 → G X d 10 9 [some (.ref 0), some (.int v1), some (.int v2), some (.int v3), some (.int v4), none] [] h) : G X d 10 6 [some (.ref 0), some (.int v1), some (.int v2), some (.int v3), some (.int v4), none] [.int s0] h := by
  exact g_if_eq (tgt := 19) d_10_6 (by decide) (fun q => g_mask [false, false, false, false, false, false] (kt q)) kf

theorem k_10_9 {X : GX} {d : Nat} {h : Hp} {v1 : Int32} {v2 : Int32} {v3 : Int32} {v4 : Int32} {d' : Nat} {Q' : Int32 → Hp → Prop} (hdd : d' < d) (hC : CI d' 11 [.int v2, .int 0, .int 99] h Q') (kk : ∀ x h', Q' x h' → G X d 10 16 [some (.ref 0), some (.int v1), some (.int v2), some (.int v3), some (.int v4), none] [.int x] h') : G X d 10 9 [some (.ref 0), some (.int v1), some (.int v2), some (.int v3), some (.int v4), none] [] h := by
  refine g_iload_n d_10_9 rfl rfl ?_
  refine g_iconst (v := 0) d_10_10 (by decide) ?_
  refine g_bipush (v := 99) d_10_11 (by decide) ?_
  exact g_callSI (mj := 11) [.int v2, .int 0, .int 99] [] d_10_13 wd_143 mo_11 mc_11 mv_11 rfl rfl (Nat.le_of_ble_eq_true rfl)  hdd hC kk

theorem k_10_16 {X : GX} {d : Nat} {h : Hp} {v1 : Int32} {v2 : Int32} {v3 : Int32} {v4 : Int32} {s0 : Int32} (kt : ¬ s0 = 0 → G X d 10 21 [some (.ref 0), some (.int v1), some (.int v2), some (.int v3), some (.int v4), none] [] h) (kf : s0 = 0 → G X d 10 19 [none, none, none, none, none, none] [] h) : G X d 10 16 [some (.ref 0), some (.int v1), some (.int v2), some (.int v3), some (.int v4), none] [.int s0] h := by
  exact g_if_ne (tgt := 21) d_10_16 (by decide) kt (fun q => g_mask [false, false, false, false, false, false] (kf q))

theorem k_10_19 {X : GX} {d : Nat} {h : Hp} (hq : RtX X (some (.int ((-1)))) h) : G X d 10 19 [none, none, none, none, none, none] [] h := by
  refine g_iconst (v := (-1)) d_10_19 (by decide) ?_
  exact g_reti d_10_20 rfl hq

theorem k_10_21 {X : GX} {d : Nat} {h : Hp} {v1 : Int32} {v2 : Int32} {v3 : Int32} {v4 : Int32} {d' : Nat} {Q' : Int32 → Hp → Prop} (hdd : d' < d) (hC : CI d' 11 [.int v3, .int 0, .int 9] h Q') (kk : ∀ x h', Q' x h' → G X d 10 28 [some (.ref 0), some (.int v1), some (.int v2), some (.int v3), some (.int v4), none] [.int x] h') : G X d 10 21 [some (.ref 0), some (.int v1), some (.int v2), some (.int v3), some (.int v4), none] [] h := by
  refine g_iload_n d_10_21 rfl rfl ?_
  refine g_iconst (v := 0) d_10_22 (by decide) ?_
  refine g_bipush (v := 9) d_10_23 (by decide) ?_
  exact g_callSI (mj := 11) [.int v3, .int 0, .int 9] [] d_10_25 wd_143 mo_11 mc_11 mv_11 rfl rfl (Nat.le_of_ble_eq_true rfl)  hdd hC kk

theorem k_10_28 {X : GX} {d : Nat} {h : Hp} {v1 : Int32} {v2 : Int32} {v3 : Int32} {v4 : Int32} {s0 : Int32} (kt : s0 = 0 → G X d 10 39 [none, none, none, none, none, none] [] h) (kf : ¬ s0 = 0 → G X d 10 31 [some (.ref 0), some (.int v1), some (.int v2), some (.int v3), some (.int v4), none] [] h) : G X d 10 28 [some (.ref 0), some (.int v1), some (.int v2), some (.int v3), some (.int v4), none] [.int s0] h := by
  exact g_if_eq (tgt := 39) d_10_28 (by decide) (fun q => g_mask [false, false, false, false, false, false] (kt q)) kf

theorem k_10_31 {X : GX} {d : Nat} {h : Hp} {v1 : Int32} {v2 : Int32} {v3 : Int32} {v4 : Int32} {d' : Nat} {Q' : Int32 → Hp → Prop} (hdd : d' < d) (hC : CI d' 12 [.int v4] h Q') (kk : ∀ x h', Q' x h' → G X d 10 36 [some (.ref 0), some (.int v1), some (.int v2), some (.int v3), some (.int v4), none] [.int x] h') : G X d 10 31 [some (.ref 0), some (.int v1), some (.int v2), some (.int v3), some (.int v4), none] [] h := by
  refine g_iload d_10_31 rfl ?_
  exact g_callSI (mj := 12) [.int v4] [] d_10_33 wd_144 mo_12 mc_12 mv_12 rfl rfl (Nat.le_of_ble_eq_true rfl)  hdd hC kk

theorem k_10_36 {X : GX} {d : Nat} {h : Hp} {v1 : Int32} {v2 : Int32} {v3 : Int32} {v4 : Int32} {s0 : Int32} (kt : ¬ s0 = 0 → G X d 10 41 [some (.ref 0), some (.int v1), some (.int v2), some (.int v3), some (.int v4), none] [] h) (kf : s0 = 0 → G X d 10 39 [none, none, none, none, none, none] [] h) : G X d 10 36 [some (.ref 0), some (.int v1), some (.int v2), some (.int v3), some (.int v4), none] [.int s0] h := by
  exact g_if_ne (tgt := 41) d_10_36 (by decide) kt (fun q => g_mask [false, false, false, false, false, false] (kf q))

theorem k_10_39 {X : GX} {d : Nat} {h : Hp} (hq : RtX X (some (.int ((-1)))) h) : G X d 10 39 [none, none, none, none, none, none] [] h := by
  refine g_iconst (v := (-1)) d_10_39 (by decide) ?_
  exact g_reti d_10_40 rfl hq

theorem k_10_41 {X : GX} {d : Nat} {h : Hp} {v1 : Int32} {v2 : Int32} {v3 : Int32} {v4 : Int32} (kt : (h 1 7) < 6 → G X d 10 56 [some (.ref 0), some (.int v1), some (.int v2), some (.int v3), some (.int v4), none] [] h) (kf : ¬ (h 1 7) < 6 → G X d 10 53 [none, none, none, none, none, none] [] h) : G X d 10 41 [some (.ref 0), some (.int v1), some (.int v2), some (.int v3), some (.int v4), none] [] h := by
  refine g_aload_n d_10_41 rfl rfl ?_
  refine g_getf (ci := 8) (k := 0) d_10_42 wd_129 (Nat.le_of_ble_eq_true rfl) rfl rfl ?_
  refine g_getf (ci := 6) (k := 7) d_10_45 wd_28 (Nat.le_of_ble_eq_true rfl) rfl rfl ?_
  refine g_bipush (v := 6) d_10_48 (by decide) ?_
  exact g_icmp_lt (tgt := 56) d_10_50 (by decide) kt (fun q => g_mask [false, false, false, false, false, false] (kf q))

theorem k_10_53 {X : GX} {d : Nat} {h : Hp} (hq : RtX X (some (.int ((-2)))) h) : G X d 10 53 [none, none, none, none, none, none] [] h := by
  refine g_bipush (v := (-2)) d_10_53 (by decide) ?_
  exact g_reti d_10_55 rfl hq

theorem k_10_56 {X : GX} {d : Nat} {h : Hp} {v1 : Int32} {v2 : Int32} {v3 : Int32} {v4 : Int32} (b0 : IA 2 (h 1 7)) (b1 : IA 3 (h 1 7)) (b2 : IA 14 (h 1 7)) (b3 : IA 15 (h 1 7)) (hq : RtX X (some (.int (h 1 7))) (wr (wr (wr (wr (wr h 1 7 ((h 1 7) + 1)) 2 (Int32.toNatClampNeg (h 1 7)) v1) 3 (Int32.toNatClampNeg (h 1 7)) v4) 14 (Int32.toNatClampNeg (h 1 7)) v2) 15 (Int32.toNatClampNeg (h 1 7)) v3)) : G X d 10 56 [some (.ref 0), some (.int v1), some (.int v2), some (.int v3), some (.int v4), none] [] h := by
  refine g_aload_n d_10_56 rfl rfl ?_
  refine g_getf (ci := 8) (k := 0) d_10_57 wd_129 (Nat.le_of_ble_eq_true rfl) rfl rfl ?_
  refine g_dup d_10_60 rfl ?_
  refine g_getf (ci := 6) (k := 7) d_10_61 wd_28 (Nat.le_of_ble_eq_true rfl) rfl rfl ?_
  refine g_dup_x1 d_10_64 rfl rfl ?_
  refine g_iconst (v := 1) d_10_65 (by decide) ?_
  refine g_iadd d_10_66 ?_
  refine g_putf (ci := 6) (k := 7) d_10_67 wd_28 (Nat.le_of_ble_eq_true rfl) (Nat.le_of_ble_eq_true rfl) rfl rfl (Or.inl ⟨rfl, rfl⟩) rfl ?_
  refine g_istore d_10_70 (Nat.le_of_ble_eq_true rfl) rfl ?_
  refine g_aload_n d_10_72 rfl rfl ?_
  refine g_getf (ci := 8) (k := 0) d_10_73 wd_129 (Nat.le_of_ble_eq_true rfl) rfl rfl ?_
  refine g_getf (ci := 6) (k := 0) d_10_76 wd_15 (Nat.le_of_ble_eq_true rfl) rfl rfl ?_
  refine g_iload d_10_79 rfl ?_
  refine g_iload_n d_10_81 rfl rfl ?_
  refine g_iast d_10_82 b0 ?_
  refine g_aload_n d_10_83 rfl rfl ?_
  refine g_getf (ci := 8) (k := 0) d_10_84 wd_129 (Nat.le_of_ble_eq_true rfl) rfl rfl ?_
  refine g_getf (ci := 6) (k := 1) d_10_87 wd_17 (Nat.le_of_ble_eq_true rfl) rfl rfl ?_
  refine g_iload d_10_90 rfl ?_
  refine g_iload d_10_92 rfl ?_
  refine g_iast d_10_94 b1 ?_
  refine g_aload_n d_10_95 rfl rfl ?_
  refine g_getf (ci := 8) (k := 1) d_10_96 wd_130 (Nat.le_of_ble_eq_true rfl) rfl rfl ?_
  refine g_getf (ci := 3) (k := 0) d_10_99 wd_35 (Nat.le_of_ble_eq_true rfl) rfl rfl ?_
  refine g_iload d_10_102 rfl ?_
  refine g_iload_n d_10_104 rfl rfl ?_
  refine g_iast d_10_105 b2 ?_
  refine g_aload_n d_10_106 rfl rfl ?_
  refine g_getf (ci := 8) (k := 1) d_10_107 wd_130 (Nat.le_of_ble_eq_true rfl) rfl rfl ?_
  refine g_getf (ci := 3) (k := 1) d_10_110 wd_38 (Nat.le_of_ble_eq_true rfl) rfl rfl ?_
  refine g_iload d_10_113 rfl ?_
  refine g_iload_n d_10_115 rfl rfl ?_
  refine g_iast d_10_116 b3 ?_
  refine g_iload d_10_117 rfl ?_
  exact g_reti d_10_119 rfl hq

/-! 11 PlayedTruth.isIn(III)Z -/
theorem k_11_0 {X : GX} {d : Nat} {h : Hp} {v0 : Int32} {v1 : Int32} {v2 : Int32} (kt : v0 < v1 → G X d 11 14 [none, none, none] [] h) (kf : ¬ v0 < v1 → G X d 11 5 [some (.int v0), none, some (.int v2)] [] h) : G X d 11 0 [some (.int v0), some (.int v1), some (.int v2)] [] h := by
  refine g_iload_n d_11_0 rfl rfl ?_
  refine g_iload_n d_11_1 rfl rfl ?_
  exact g_icmp_lt (tgt := 14) d_11_2 (by decide) (fun q => g_mask [false, false, false] (kt q)) (fun q => g_mask [true, false, true] (kf q))

theorem k_11_5 {X : GX} {d : Nat} {h : Hp} {v0 : Int32} {v2 : Int32} (kt : v2 < v0 → G X d 11 14 [none, none, none] [] h) (kf : ¬ v2 < v0 → G X d 11 10 [none, none, none] [] h) : G X d 11 5 [some (.int v0), none, some (.int v2)] [] h := by
  refine g_iload_n d_11_5 rfl rfl ?_
  refine g_iload_n d_11_6 rfl rfl ?_
  exact g_icmp_gt (tgt := 14) d_11_7 (by decide) (fun q => g_mask [false, false, false] (kt q)) (fun q => g_mask [false, false, false] (kf q))

theorem k_11_10 {X : GX} {d : Nat} {h : Hp} (hq : RtX X (some (.int 1)) h) : G X d 11 10 [none, none, none] [] h := by
  refine g_iconst (v := 1) d_11_10 (by decide) ?_
  refine g_goto (tgt := 15) d_11_11 (by decide) ?_
  exact g_retz d_11_15 rfl z01_1 hq

theorem k_11_14 {X : GX} {d : Nat} {h : Hp} (hq : RtX X (some (.int 0)) h) : G X d 11 14 [none, none, none] [] h := by
  refine g_iconst (v := 0) d_11_14 (by decide) ?_
  exact g_retz d_11_15 rfl z01_0 hq

/-! 12 PlayedTruth.isPlace(I)Z -/
theorem k_12_0 {X : GX} {d : Nat} {h : Hp} {v0 : Int32} {d' : Nat} {Q' : Int32 → Hp → Prop} (hdd : d' < d) (hC : CI d' 11 [.int v0, .int 0, .int 5] h Q') (kk : ∀ x h', Q' x h' → G X d 12 6 [none] [.int x] h') : G X d 12 0 [some (.int v0)] [] h := by
  refine g_iload_n d_12_0 rfl rfl ?_
  refine g_iconst (v := 0) d_12_1 (by decide) ?_
  refine g_iconst (v := 5) d_12_2 (by decide) ?_
  exact g_callSI (mj := 11) [.int v0, .int 0, .int 5] [] d_12_3 wd_143 mo_11 mc_11 mv_11 rfl rfl (Nat.le_of_ble_eq_true rfl)  hdd hC (fun x h' q => g_mask [false] (kk x h' q))

theorem k_12_6 {X : GX} {d : Nat} {h : Hp} {s0 : Int32} (z0 : s0 = 0 ∨ s0 = 1) (hq : RtX X (some (.int s0)) h) : G X d 12 6 [none] [.int s0] h := by
  exact g_retz d_12_6 rfl z0 hq

/-! 13 PlayedTruth.sceneOf(II)I -/
theorem k_13_0 {X : GX} {d : Nat} {h : Hp} {v1 : Int32} {v2 : Int32} {d' : Nat} {Q' : Int32 → Hp → Prop} (hdd : d' < d) (hC : CI d' 14 [.ref 0, .int v1] h Q') (kk : ∀ x h', Q' x h' → G X d 13 5 [some (.ref 0), some (.int v1), some (.int v2)] [.int x] h') : G X d 13 0 [some (.ref 0), some (.int v1), some (.int v2)] [] h := by
  refine g_aload_n d_13_0 rfl rfl ?_
  refine g_iload_n d_13_1 rfl rfl ?_
  exact g_callVI (mj := 14) 8 [.int v1] [] d_13_2 wd_146 mo_14 mc_14 mv_14 rfl rfl rfl (Nat.le_of_ble_eq_true rfl) rfl hdd hC kk

theorem k_13_5 {X : GX} {d : Nat} {h : Hp} {v1 : Int32} {v2 : Int32} {s0 : Int32} (kt : ¬ s0 = 0 → G X d 13 10 [some (.ref 0), some (.int v1), some (.int v2)] [] h) (kf : s0 = 0 → G X d 13 8 [none, none, none] [] h) : G X d 13 5 [some (.ref 0), some (.int v1), some (.int v2)] [.int s0] h := by
  exact g_if_ne (tgt := 10) d_13_5 (by decide) kt (fun q => g_mask [false, false, false] (kf q))

theorem k_13_8 {X : GX} {d : Nat} {h : Hp} (hq : RtX X (some (.int ((-1)))) h) : G X d 13 8 [none, none, none] [] h := by
  refine g_iconst (v := (-1)) d_13_8 (by decide) ?_
  exact g_reti d_13_9 rfl hq

theorem k_13_10 {X : GX} {d : Nat} {h : Hp} {v1 : Int32} {v2 : Int32} (k0 : v2 = 0 → G X d 13 64 [some (.ref 0), some (.int v1), none] [] h) (k1 : v2 = 1 → G X d 13 74 [some (.ref 0), some (.int v1), none] [] h) (k2 : v2 = 2 → G X d 13 84 [some (.ref 0), some (.int v1), none] [] h) (k3 : v2 = 3 → G X d 13 94 [some (.ref 0), some (.int v1), none] [] h) (k4 : v2 = 4 → G X d 13 104 [some (.ref 0), some (.int v1), none] [] h) (k5 : v2 = 5 → G X d 13 121 [some (.ref 0), some (.int v1), none] [] h) (k6 : v2 = 6 → G X d 13 134 [some (.ref 0), some (.int v1), none] [] h) (k7 : v2 = 7 → G X d 13 147 [some (.ref 0), some (.int v1), none] [] h) (k8 : v2 = 8 → G X d 13 160 [some (.ref 0), some (.int v1), none] [] h) (k9 : v2 = 9 → G X d 13 181 [some (.ref 0), some (.int v1), none] [] h) (kd : ¬ v2 = 0 → ¬ v2 = 1 → ¬ v2 = 2 → ¬ v2 = 3 → ¬ v2 = 4 → ¬ v2 = 5 → ¬ v2 = 6 → ¬ v2 = 7 → ¬ v2 = 8 → ¬ v2 = 9 → G X d 13 194 [none, none, none] [] h) : G X d 13 10 [some (.ref 0), some (.int v1), some (.int v2)] [] h := by
  refine g_iload_n d_13_10 rfl rfl ?_
  exact g_table (tls := [(0, 64), (1, 74), (2, 84), (3, 94), (4, 104), (5, 121), (6, 134), (7, 147), (8, 160), (9, 181)]) (df := 194) d_13_11 (by decide +kernel) ⟨fun q => g_mask [true, true, false] (k0 q), fun n0 => ⟨fun q => g_mask [true, true, false] (k1 q), fun n1 => ⟨fun q => g_mask [true, true, false] (k2 q), fun n2 => ⟨fun q => g_mask [true, true, false] (k3 q), fun n3 => ⟨fun q => g_mask [true, true, false] (k4 q), fun n4 => ⟨fun q => g_mask [true, true, false] (k5 q), fun n5 => ⟨fun q => g_mask [true, true, false] (k6 q), fun n6 => ⟨fun q => g_mask [true, true, false] (k7 q), fun n7 => ⟨fun q => g_mask [true, true, false] (k8 q), fun n8 => ⟨fun q => g_mask [true, true, false] (k9 q), fun n9 => (g_mask [false, false, false] (kd n0 n1 n2 n3 n4 n5 n6 n7 n8 n9))⟩⟩⟩⟩⟩⟩⟩⟩⟩⟩

theorem k_13_64 {X : GX} {d : Nat} {h : Hp} {v1 : Int32} (b0 : IA 2 v1) (hq : RtX X (some (.int (h 2 (Int32.toNatClampNeg v1)))) h) : G X d 13 64 [some (.ref 0), some (.int v1), none] [] h := by
  refine g_aload_n d_13_64 rfl rfl ?_
  refine g_getf (ci := 8) (k := 0) d_13_65 wd_129 (Nat.le_of_ble_eq_true rfl) rfl rfl ?_
  refine g_getf (ci := 6) (k := 0) d_13_68 wd_15 (Nat.le_of_ble_eq_true rfl) rfl rfl ?_
  refine g_iload_n d_13_71 rfl rfl ?_
  refine g_iald d_13_72 b0 ?_
  exact g_reti d_13_73 rfl hq

theorem k_13_74 {X : GX} {d : Nat} {h : Hp} {v1 : Int32} (b0 : IA 14 v1) (hq : RtX X (some (.int (h 14 (Int32.toNatClampNeg v1)))) h) : G X d 13 74 [some (.ref 0), some (.int v1), none] [] h := by
  refine g_aload_n d_13_74 rfl rfl ?_
  refine g_getf (ci := 8) (k := 1) d_13_75 wd_130 (Nat.le_of_ble_eq_true rfl) rfl rfl ?_
  refine g_getf (ci := 3) (k := 0) d_13_78 wd_35 (Nat.le_of_ble_eq_true rfl) rfl rfl ?_
  refine g_iload_n d_13_81 rfl rfl ?_
  refine g_iald d_13_82 b0 ?_
  exact g_reti d_13_83 rfl hq

theorem k_13_84 {X : GX} {d : Nat} {h : Hp} {v1 : Int32} (b0 : IA 15 v1) (hq : RtX X (some (.int (h 15 (Int32.toNatClampNeg v1)))) h) : G X d 13 84 [some (.ref 0), some (.int v1), none] [] h := by
  refine g_aload_n d_13_84 rfl rfl ?_
  refine g_getf (ci := 8) (k := 1) d_13_85 wd_130 (Nat.le_of_ble_eq_true rfl) rfl rfl ?_
  refine g_getf (ci := 3) (k := 1) d_13_88 wd_38 (Nat.le_of_ble_eq_true rfl) rfl rfl ?_
  refine g_iload_n d_13_91 rfl rfl ?_
  refine g_iald d_13_92 b0 ?_
  exact g_reti d_13_93 rfl hq

theorem k_13_94 {X : GX} {d : Nat} {h : Hp} {v1 : Int32} (b0 : IA 3 v1) (hq : RtX X (some (.int (h 3 (Int32.toNatClampNeg v1)))) h) : G X d 13 94 [some (.ref 0), some (.int v1), none] [] h := by
  refine g_aload_n d_13_94 rfl rfl ?_
  refine g_getf (ci := 8) (k := 0) d_13_95 wd_129 (Nat.le_of_ble_eq_true rfl) rfl rfl ?_
  refine g_getf (ci := 6) (k := 1) d_13_98 wd_17 (Nat.le_of_ble_eq_true rfl) rfl rfl ?_
  refine g_iload_n d_13_101 rfl rfl ?_
  refine g_iald d_13_102 b0 ?_
  exact g_reti d_13_103 rfl hq

theorem k_13_104 {X : GX} {d : Nat} {h : Hp} {v1 : Int32} {d' : Nat} {Q' : Int32 → Hp → Prop} (hdd : d' < d) (hC : CI d' 15 [.ref 13, .int v1] h Q') (kk : ∀ x h', Q' x h' → G X d 13 112 [none, none, none] [.int x] h') : G X d 13 104 [some (.ref 0), some (.int v1), none] [] h := by
  refine g_aload_n d_13_104 rfl rfl ?_
  refine g_getf (ci := 8) (k := 1) d_13_105 wd_130 (Nat.le_of_ble_eq_true rfl) rfl rfl ?_
  refine g_iload_n d_13_108 rfl rfl ?_
  exact g_callVI (mj := 15) 3 [.int v1] [] d_13_109 wd_147 mo_15 mc_15 mv_15 rfl rfl rfl (Nat.le_of_ble_eq_true rfl) rfl hdd hC (fun x h' q => g_mask [false, false, false] (kk x h' q))

theorem k_13_112 {X : GX} {d : Nat} {h : Hp} {s0 : Int32} (kt : s0 = 0 → G X d 13 119 [none, none, none] [] h) (kf : ¬ s0 = 0 → G X d 13 115 [none, none, none] [] h) : G X d 13 112 [none, none, none] [.int s0] h := by
  exact g_if_eq (tgt := 119) d_13_112 (by decide) kt kf

theorem k_13_115 {X : GX} {d : Nat} {h : Hp} (hq : RtX X (some (.int 1)) h) : G X d 13 115 [none, none, none] [] h := by
  refine g_iconst (v := 1) d_13_115 (by decide) ?_
  refine g_goto (tgt := 120) d_13_116 (by decide) ?_
  exact g_reti d_13_120 rfl hq

theorem k_13_119 {X : GX} {d : Nat} {h : Hp} (hq : RtX X (some (.int 0)) h) : G X d 13 119 [none, none, none] [] h := by
  refine g_iconst (v := 0) d_13_119 (by decide) ?_
  exact g_reti d_13_120 rfl hq

theorem k_13_121 {X : GX} {d : Nat} {h : Hp} {v1 : Int32} {d' : Nat} {Q' : Int32 → Hp → Prop} (hdd : d' < d) (hC : CI d' 16 [.ref 1, .ref 13, .int v1] h Q') (kk : ∀ x h', Q' x h' → G X d 13 133 [none, none, none] [.int x] h') : G X d 13 121 [some (.ref 0), some (.int v1), none] [] h := by
  refine g_aload_n d_13_121 rfl rfl ?_
  refine g_getf (ci := 8) (k := 0) d_13_122 wd_129 (Nat.le_of_ble_eq_true rfl) rfl rfl ?_
  refine g_aload_n d_13_125 rfl rfl ?_
  refine g_getf (ci := 8) (k := 1) d_13_126 wd_130 (Nat.le_of_ble_eq_true rfl) rfl rfl ?_
  refine g_iload_n d_13_129 rfl rfl ?_
  exact g_callVI (mj := 16) 6 [.ref 13, .int v1] [] d_13_130 wd_148 mo_16 mc_16 mv_16 rfl rfl rfl (Nat.le_of_ble_eq_true rfl) rfl hdd hC (fun x h' q => g_mask [false, false, false] (kk x h' q))

theorem k_13_133 {X : GX} {d : Nat} {h : Hp} {s0 : Int32} (hq : RtX X (some (.int s0)) h) : G X d 13 133 [none, none, none] [.int s0] h := by
  exact g_reti d_13_133 rfl hq

theorem k_13_134 {X : GX} {d : Nat} {h : Hp} {v1 : Int32} {d' : Nat} {Q' : Int32 → Hp → Prop} (hdd : d' < d) (hC : CI d' 21 [.ref 1, .ref 13, .int v1] h Q') (kk : ∀ x h', Q' x h' → G X d 13 146 [none, none, none] [.int x] h') : G X d 13 134 [some (.ref 0), some (.int v1), none] [] h := by
  refine g_aload_n d_13_134 rfl rfl ?_
  refine g_getf (ci := 8) (k := 0) d_13_135 wd_129 (Nat.le_of_ble_eq_true rfl) rfl rfl ?_
  refine g_aload_n d_13_138 rfl rfl ?_
  refine g_getf (ci := 8) (k := 1) d_13_139 wd_130 (Nat.le_of_ble_eq_true rfl) rfl rfl ?_
  refine g_iload_n d_13_142 rfl rfl ?_
  exact g_callVI (mj := 21) 6 [.ref 13, .int v1] [] d_13_143 wd_155 mo_21 mc_21 mv_21 rfl rfl rfl (Nat.le_of_ble_eq_true rfl) rfl hdd hC (fun x h' q => g_mask [false, false, false] (kk x h' q))

theorem k_13_146 {X : GX} {d : Nat} {h : Hp} {s0 : Int32} (hq : RtX X (some (.int s0)) h) : G X d 13 146 [none, none, none] [.int s0] h := by
  exact g_reti d_13_146 rfl hq

theorem k_13_147 {X : GX} {d : Nat} {h : Hp} {v1 : Int32} {d' : Nat} {Q' : Int32 → Hp → Prop} (hdd : d' < d) (hC : CI d' 20 [.ref 1, .ref 13, .int v1] h Q') (kk : ∀ x h', Q' x h' → G X d 13 159 [none, none, none] [.int x] h') : G X d 13 147 [some (.ref 0), some (.int v1), none] [] h := by
  refine g_aload_n d_13_147 rfl rfl ?_
  refine g_getf (ci := 8) (k := 0) d_13_148 wd_129 (Nat.le_of_ble_eq_true rfl) rfl rfl ?_
  refine g_aload_n d_13_151 rfl rfl ?_
  refine g_getf (ci := 8) (k := 1) d_13_152 wd_130 (Nat.le_of_ble_eq_true rfl) rfl rfl ?_
  refine g_iload_n d_13_155 rfl rfl ?_
  exact g_callVI (mj := 20) 6 [.ref 13, .int v1] [] d_13_156 wd_157 mo_20 mc_20 mv_20 rfl rfl rfl (Nat.le_of_ble_eq_true rfl) rfl hdd hC (fun x h' q => g_mask [false, false, false] (kk x h' q))

theorem k_13_159 {X : GX} {d : Nat} {h : Hp} {s0 : Int32} (hq : RtX X (some (.int s0)) h) : G X d 13 159 [none, none, none] [.int s0] h := by
  exact g_reti d_13_159 rfl hq

theorem k_13_160 {X : GX} {d : Nat} {h : Hp} {v1 : Int32} {d' : Nat} {Q' : Int32 → Hp → Prop} (hdd : d' < d) (hC : CI d' 23 [.ref 1, .ref 13, .int v1] h Q') (kk : ∀ x h', Q' x h' → G X d 13 172 [none, none, none] [.int x] h') : G X d 13 160 [some (.ref 0), some (.int v1), none] [] h := by
  refine g_aload_n d_13_160 rfl rfl ?_
  refine g_getf (ci := 8) (k := 0) d_13_161 wd_129 (Nat.le_of_ble_eq_true rfl) rfl rfl ?_
  refine g_aload_n d_13_164 rfl rfl ?_
  refine g_getf (ci := 8) (k := 1) d_13_165 wd_130 (Nat.le_of_ble_eq_true rfl) rfl rfl ?_
  refine g_iload_n d_13_168 rfl rfl ?_
  exact g_callVI (mj := 23) 6 [.ref 13, .int v1] [] d_13_169 wd_158 mo_23 mc_23 mv_23 rfl rfl rfl (Nat.le_of_ble_eq_true rfl) rfl hdd hC (fun x h' q => g_mask [false, false, false] (kk x h' q))

theorem k_13_172 {X : GX} {d : Nat} {h : Hp} {s0 : Int32} (kt : s0 = 0 → G X d 13 179 [none, none, none] [] h) (kf : ¬ s0 = 0 → G X d 13 175 [none, none, none] [] h) : G X d 13 172 [none, none, none] [.int s0] h := by
  exact g_if_eq (tgt := 179) d_13_172 (by decide) kt kf

theorem k_13_175 {X : GX} {d : Nat} {h : Hp} (hq : RtX X (some (.int 1)) h) : G X d 13 175 [none, none, none] [] h := by
  refine g_iconst (v := 1) d_13_175 (by decide) ?_
  refine g_goto (tgt := 180) d_13_176 (by decide) ?_
  exact g_reti d_13_180 rfl hq

theorem k_13_179 {X : GX} {d : Nat} {h : Hp} (hq : RtX X (some (.int 0)) h) : G X d 13 179 [none, none, none] [] h := by
  refine g_iconst (v := 0) d_13_179 (by decide) ?_
  exact g_reti d_13_180 rfl hq

theorem k_13_181 {X : GX} {d : Nat} {h : Hp} {v1 : Int32} {d' : Nat} {Q' : Int32 → Hp → Prop} (hdd : d' < d) (hC : CI d' 24 [.ref 1, .ref 13, .int v1] h Q') (kk : ∀ x h', Q' x h' → G X d 13 193 [none, none, none] [.int x] h') : G X d 13 181 [some (.ref 0), some (.int v1), none] [] h := by
  refine g_aload_n d_13_181 rfl rfl ?_
  refine g_getf (ci := 8) (k := 0) d_13_182 wd_129 (Nat.le_of_ble_eq_true rfl) rfl rfl ?_
  refine g_aload_n d_13_185 rfl rfl ?_
  refine g_getf (ci := 8) (k := 1) d_13_186 wd_130 (Nat.le_of_ble_eq_true rfl) rfl rfl ?_
  refine g_iload_n d_13_189 rfl rfl ?_
  exact g_callVI (mj := 24) 6 [.ref 13, .int v1] [] d_13_190 wd_164 mo_24 mc_24 mv_24 rfl rfl rfl (Nat.le_of_ble_eq_true rfl) rfl hdd hC (fun x h' q => g_mask [false, false, false] (kk x h' q))

theorem k_13_193 {X : GX} {d : Nat} {h : Hp} {s0 : Int32} (hq : RtX X (some (.int s0)) h) : G X d 13 193 [none, none, none] [.int s0] h := by
  exact g_reti d_13_193 rfl hq

theorem k_13_194 {X : GX} {d : Nat} {h : Hp} (hq : RtX X (some (.int ((-1)))) h) : G X d 13 194 [none, none, none] [] h := by
  refine g_iconst (v := (-1)) d_13_194 (by decide) ?_
  exact g_reti d_13_195 rfl hq

/-! 14 PlayedTruth.isScene(I)Z -/
theorem k_14_0 {X : GX} {d : Nat} {h : Hp} {v1 : Int32} {d' : Nat} {Q' : Int32 → Hp → Prop} (hdd : d' < d) (hC : CI d' 11 [.int v1, .int 0, .int ((h 1 7) - 1)] h Q') (kk : ∀ x h', Q' x h' → G X d 14 14 [none, none] [.int x] h') : G X d 14 0 [some (.ref 0), some (.int v1)] [] h := by
  refine g_iload_n d_14_0 rfl rfl ?_
  refine g_iconst (v := 0) d_14_1 (by decide) ?_
  refine g_aload_n d_14_2 rfl rfl ?_
  refine g_getf (ci := 8) (k := 0) d_14_3 wd_129 (Nat.le_of_ble_eq_true rfl) rfl rfl ?_
  refine g_getf (ci := 6) (k := 7) d_14_6 wd_28 (Nat.le_of_ble_eq_true rfl) rfl rfl ?_
  refine g_iconst (v := 1) d_14_9 (by decide) ?_
  refine g_isub d_14_10 ?_
  exact g_callSI (mj := 11) [.int v1, .int 0, .int ((h 1 7) - 1)] [] d_14_11 wd_143 mo_11 mc_11 mv_11 rfl rfl (Nat.le_of_ble_eq_true rfl)  hdd hC (fun x h' q => g_mask [false, false] (kk x h' q))

theorem k_14_14 {X : GX} {d : Nat} {h : Hp} {s0 : Int32} (z0 : s0 = 0 ∨ s0 = 1) (hq : RtX X (some (.int s0)) h) : G X d 14 14 [none, none] [.int s0] h := by
  exact g_retz d_14_14 rfl z0 hq

/-! 28 PlayedTruth.change(III)I -/
theorem k_28_0 {X : GX} {d : Nat} {h : Hp} {v1 : Int32} {v2 : Int32} {v3 : Int32} {d' : Nat} {Q' : Int32 → Hp → Prop} (hdd : d' < d) (hC : CI d' 14 [.ref 0, .int v1] h Q') (kk : ∀ x h', Q' x h' → G X d 28 5 [some (.ref 0), some (.int v1), some (.int v2), some (.int v3)] [.int x] h') : G X d 28 0 [some (.ref 0), some (.int v1), some (.int v2), some (.int v3)] [] h := by
  refine g_aload_n d_28_0 rfl rfl ?_
  refine g_iload_n d_28_1 rfl rfl ?_
  exact g_callVI (mj := 14) 8 [.int v1] [] d_28_2 wd_146 mo_14 mc_14 mv_14 rfl rfl rfl (Nat.le_of_ble_eq_true rfl) rfl hdd hC kk

theorem k_28_5 {X : GX} {d : Nat} {h : Hp} {v1 : Int32} {v2 : Int32} {v3 : Int32} {s0 : Int32} (kt : ¬ s0 = 0 → G X d 28 10 [some (.ref 0), some (.int v1), some (.int v2), some (.int v3)] [] h) (kf : s0 = 0 → G X d 28 8 [none, none, none, none] [] h) : G X d 28 5 [some (.ref 0), some (.int v1), some (.int v2), some (.int v3)] [.int s0] h := by
  exact g_if_ne (tgt := 10) d_28_5 (by decide) kt (fun q => g_mask [false, false, false, false] (kf q))

theorem k_28_8 {X : GX} {d : Nat} {h : Hp} (hq : RtX X (some (.int ((-1)))) h) : G X d 28 8 [none, none, none, none] [] h := by
  refine g_iconst (v := (-1)) d_28_8 (by decide) ?_
  exact g_reti d_28_9 rfl hq

theorem k_28_10 {X : GX} {d : Nat} {h : Hp} {v1 : Int32} {v2 : Int32} {v3 : Int32} (k0 : v2 = 1 → G X d 28 40 [some (.ref 0), some (.int v1), none, some (.int v3)] [] h) (k1 : v2 = 2 → G X d 28 67 [some (.ref 0), some (.int v1), none, some (.int v3)] [] h) (k2 : v2 = 3 → G X d 28 94 [some (.ref 0), some (.int v1), none, some (.int v3)] [] h) (k3 : v2 = 4 → G X d 28 118 [some (.ref 0), some (.int v1), none, some (.int v3)] [] h) (kd : ¬ v2 = 1 → ¬ v2 = 2 → ¬ v2 = 3 → ¬ v2 = 4 → G X d 28 138 [none, none, none, none] [] h) : G X d 28 10 [some (.ref 0), some (.int v1), some (.int v2), some (.int v3)] [] h := by
  refine g_iload_n d_28_10 rfl rfl ?_
  exact g_table (tls := [(1, 40), (2, 67), (3, 94), (4, 118)]) (df := 138) d_28_11 (by decide +kernel) ⟨fun q => g_mask [true, true, false, true] (k0 q), fun n0 => ⟨fun q => g_mask [true, true, false, true] (k1 q), fun n1 => ⟨fun q => g_mask [true, true, false, true] (k2 q), fun n2 => ⟨fun q => g_mask [true, true, false, true] (k3 q), fun n3 => (g_mask [false, false, false, false] (kd n0 n1 n2 n3))⟩⟩⟩⟩

theorem k_28_40 {X : GX} {d : Nat} {h : Hp} {v1 : Int32} {v3 : Int32} {d' : Nat} {Q' : Int32 → Hp → Prop} (hdd : d' < d) (hC : CI d' 11 [.int v3, .int 0, .int 99] h Q') (kk : ∀ x h', Q' x h' → G X d 28 47 [some (.ref 0), some (.int v1), none, some (.int v3)] [.int x] h') : G X d 28 40 [some (.ref 0), some (.int v1), none, some (.int v3)] [] h := by
  refine g_iload_n d_28_40 rfl rfl ?_
  refine g_iconst (v := 0) d_28_41 (by decide) ?_
  refine g_bipush (v := 99) d_28_42 (by decide) ?_
  exact g_callSI (mj := 11) [.int v3, .int 0, .int 99] [] d_28_44 wd_143 mo_11 mc_11 mv_11 rfl rfl (Nat.le_of_ble_eq_true rfl)  hdd hC kk

theorem k_28_47 {X : GX} {d : Nat} {h : Hp} {v1 : Int32} {v3 : Int32} {s0 : Int32} (kt : s0 = 0 → G X d 28 65 [none, none, none, none] [] h) (kf : ¬ s0 = 0 → G X d 28 50 [some (.ref 0), some (.int v1), none, some (.int v3)] [] h) : G X d 28 47 [some (.ref 0), some (.int v1), none, some (.int v3)] [.int s0] h := by
  exact g_if_eq (tgt := 65) d_28_47 (by decide) (fun q => g_mask [false, false, false, false] (kt q)) kf

theorem k_28_50 {X : GX} {d : Nat} {h : Hp} {v1 : Int32} {v3 : Int32} {d' : Nat} {Q' : Int32 → Hp → Prop} (hdd : d' < d) (hC : CI d' 29 [.ref 14, .int v1, .int v3] h Q') (kk : ∀ x h', Q' x h' → G X d 28 62 [none, none, none, none] [.int x] h') : G X d 28 50 [some (.ref 0), some (.int v1), none, some (.int v3)] [] h := by
  refine g_aload_n d_28_50 rfl rfl ?_
  refine g_getf (ci := 8) (k := 1) d_28_51 wd_130 (Nat.le_of_ble_eq_true rfl) rfl rfl ?_
  refine g_getf (ci := 3) (k := 0) d_28_54 wd_35 (Nat.le_of_ble_eq_true rfl) rfl rfl ?_
  refine g_iload_n d_28_57 rfl rfl ?_
  refine g_iload_n d_28_58 rfl rfl ?_
  exact g_callSI (mj := 29) [.ref 14, .int v1, .int v3] [] d_28_59 wd_166 mo_29 mc_29 mv_29 rfl rfl (Nat.le_of_ble_eq_true rfl)  hdd hC (fun x h' q => g_mask [false, false, false, false] (kk x h' q))

theorem k_28_62 {X : GX} {d : Nat} {h : Hp} {s0 : Int32} (hq : RtX X (some (.int s0)) h) : G X d 28 62 [none, none, none, none] [.int s0] h := by
  refine g_goto (tgt := 66) d_28_62 (by decide) ?_
  exact g_reti d_28_66 rfl hq

theorem k_28_65 {X : GX} {d : Nat} {h : Hp} (hq : RtX X (some (.int ((-1)))) h) : G X d 28 65 [none, none, none, none] [] h := by
  refine g_iconst (v := (-1)) d_28_65 (by decide) ?_
  exact g_reti d_28_66 rfl hq

theorem k_28_67 {X : GX} {d : Nat} {h : Hp} {v1 : Int32} {v3 : Int32} {d' : Nat} {Q' : Int32 → Hp → Prop} (hdd : d' < d) (hC : CI d' 11 [.int v3, .int 0, .int 9] h Q') (kk : ∀ x h', Q' x h' → G X d 28 74 [some (.ref 0), some (.int v1), none, some (.int v3)] [.int x] h') : G X d 28 67 [some (.ref 0), some (.int v1), none, some (.int v3)] [] h := by
  refine g_iload_n d_28_67 rfl rfl ?_
  refine g_iconst (v := 0) d_28_68 (by decide) ?_
  refine g_bipush (v := 9) d_28_69 (by decide) ?_
  exact g_callSI (mj := 11) [.int v3, .int 0, .int 9] [] d_28_71 wd_143 mo_11 mc_11 mv_11 rfl rfl (Nat.le_of_ble_eq_true rfl)  hdd hC kk

theorem k_28_74 {X : GX} {d : Nat} {h : Hp} {v1 : Int32} {v3 : Int32} {s0 : Int32} (kt : s0 = 0 → G X d 28 92 [none, none, none, none] [] h) (kf : ¬ s0 = 0 → G X d 28 77 [some (.ref 0), some (.int v1), none, some (.int v3)] [] h) : G X d 28 74 [some (.ref 0), some (.int v1), none, some (.int v3)] [.int s0] h := by
  exact g_if_eq (tgt := 92) d_28_74 (by decide) (fun q => g_mask [false, false, false, false] (kt q)) kf

theorem k_28_77 {X : GX} {d : Nat} {h : Hp} {v1 : Int32} {v3 : Int32} {d' : Nat} {Q' : Int32 → Hp → Prop} (hdd : d' < d) (hC : CI d' 29 [.ref 15, .int v1, .int v3] h Q') (kk : ∀ x h', Q' x h' → G X d 28 89 [none, none, none, none] [.int x] h') : G X d 28 77 [some (.ref 0), some (.int v1), none, some (.int v3)] [] h := by
  refine g_aload_n d_28_77 rfl rfl ?_
  refine g_getf (ci := 8) (k := 1) d_28_78 wd_130 (Nat.le_of_ble_eq_true rfl) rfl rfl ?_
  refine g_getf (ci := 3) (k := 1) d_28_81 wd_38 (Nat.le_of_ble_eq_true rfl) rfl rfl ?_
  refine g_iload_n d_28_84 rfl rfl ?_
  refine g_iload_n d_28_85 rfl rfl ?_
  exact g_callSI (mj := 29) [.ref 15, .int v1, .int v3] [] d_28_86 wd_166 mo_29 mc_29 mv_29 rfl rfl (Nat.le_of_ble_eq_true rfl)  hdd hC (fun x h' q => g_mask [false, false, false, false] (kk x h' q))

theorem k_28_89 {X : GX} {d : Nat} {h : Hp} {s0 : Int32} (hq : RtX X (some (.int s0)) h) : G X d 28 89 [none, none, none, none] [.int s0] h := by
  refine g_goto (tgt := 93) d_28_89 (by decide) ?_
  exact g_reti d_28_93 rfl hq

theorem k_28_92 {X : GX} {d : Nat} {h : Hp} (hq : RtX X (some (.int ((-1)))) h) : G X d 28 92 [none, none, none, none] [] h := by
  refine g_iconst (v := (-1)) d_28_92 (by decide) ?_
  exact g_reti d_28_93 rfl hq

theorem k_28_94 {X : GX} {d : Nat} {h : Hp} {v1 : Int32} {v3 : Int32} {d' : Nat} {Q' : Int32 → Hp → Prop} (hdd : d' < d) (hC : CI d' 12 [.int v3] h Q') (kk : ∀ x h', Q' x h' → G X d 28 98 [some (.ref 0), some (.int v1), none, some (.int v3)] [.int x] h') : G X d 28 94 [some (.ref 0), some (.int v1), none, some (.int v3)] [] h := by
  refine g_iload_n d_28_94 rfl rfl ?_
  exact g_callSI (mj := 12) [.int v3] [] d_28_95 wd_144 mo_12 mc_12 mv_12 rfl rfl (Nat.le_of_ble_eq_true rfl)  hdd hC kk

theorem k_28_98 {X : GX} {d : Nat} {h : Hp} {v1 : Int32} {v3 : Int32} {s0 : Int32} (kt : s0 = 0 → G X d 28 116 [none, none, none, none] [] h) (kf : ¬ s0 = 0 → G X d 28 101 [some (.ref 0), some (.int v1), none, some (.int v3)] [] h) : G X d 28 98 [some (.ref 0), some (.int v1), none, some (.int v3)] [.int s0] h := by
  exact g_if_eq (tgt := 116) d_28_98 (by decide) (fun q => g_mask [false, false, false, false] (kt q)) kf

theorem k_28_101 {X : GX} {d : Nat} {h : Hp} {v1 : Int32} {v3 : Int32} {d' : Nat} {Q' : Int32 → Hp → Prop} (hdd : d' < d) (hC : CI d' 29 [.ref 3, .int v1, .int v3] h Q') (kk : ∀ x h', Q' x h' → G X d 28 113 [none, none, none, none] [.int x] h') : G X d 28 101 [some (.ref 0), some (.int v1), none, some (.int v3)] [] h := by
  refine g_aload_n d_28_101 rfl rfl ?_
  refine g_getf (ci := 8) (k := 0) d_28_102 wd_129 (Nat.le_of_ble_eq_true rfl) rfl rfl ?_
  refine g_getf (ci := 6) (k := 1) d_28_105 wd_17 (Nat.le_of_ble_eq_true rfl) rfl rfl ?_
  refine g_iload_n d_28_108 rfl rfl ?_
  refine g_iload_n d_28_109 rfl rfl ?_
  exact g_callSI (mj := 29) [.ref 3, .int v1, .int v3] [] d_28_110 wd_166 mo_29 mc_29 mv_29 rfl rfl (Nat.le_of_ble_eq_true rfl)  hdd hC (fun x h' q => g_mask [false, false, false, false] (kk x h' q))

theorem k_28_113 {X : GX} {d : Nat} {h : Hp} {s0 : Int32} (hq : RtX X (some (.int s0)) h) : G X d 28 113 [none, none, none, none] [.int s0] h := by
  refine g_goto (tgt := 117) d_28_113 (by decide) ?_
  exact g_reti d_28_117 rfl hq

theorem k_28_116 {X : GX} {d : Nat} {h : Hp} (hq : RtX X (some (.int ((-1)))) h) : G X d 28 116 [none, none, none, none] [] h := by
  refine g_iconst (v := (-1)) d_28_116 (by decide) ?_
  exact g_reti d_28_117 rfl hq

theorem k_28_118 {X : GX} {d : Nat} {h : Hp} {v1 : Int32} {v3 : Int32} {d' : Nat} {Q' : Int32 → Hp → Prop} (hdd : d' < d) (hC : CI d' 11 [.int v3, .int 0, .int 1] h Q') (kk : ∀ x h', Q' x h' → G X d 28 124 [some (.ref 0), some (.int v1), none, some (.int v3)] [.int x] h') : G X d 28 118 [some (.ref 0), some (.int v1), none, some (.int v3)] [] h := by
  refine g_iload_n d_28_118 rfl rfl ?_
  refine g_iconst (v := 0) d_28_119 (by decide) ?_
  refine g_iconst (v := 1) d_28_120 (by decide) ?_
  exact g_callSI (mj := 11) [.int v3, .int 0, .int 1] [] d_28_121 wd_143 mo_11 mc_11 mv_11 rfl rfl (Nat.le_of_ble_eq_true rfl)  hdd hC kk

theorem k_28_124 {X : GX} {d : Nat} {h : Hp} {v1 : Int32} {v3 : Int32} {s0 : Int32} (kt : s0 = 0 → G X d 28 136 [none, none, none, none] [] h) (kf : ¬ s0 = 0 → G X d 28 127 [some (.ref 0), some (.int v1), none, some (.int v3)] [] h) : G X d 28 124 [some (.ref 0), some (.int v1), none, some (.int v3)] [.int s0] h := by
  exact g_if_eq (tgt := 136) d_28_124 (by decide) (fun q => g_mask [false, false, false, false] (kt q)) kf

theorem k_28_127 {X : GX} {d : Nat} {h : Hp} {v1 : Int32} {v3 : Int32} {d' : Nat} {Q' : Int32 → Hp → Prop} (hdd : d' < d) (hC : CI d' 30 [.ref 0, .int v1, .int v3] h Q') (kk : ∀ x h', Q' x h' → G X d 28 133 [none, none, none, none] [.int x] h') : G X d 28 127 [some (.ref 0), some (.int v1), none, some (.int v3)] [] h := by
  refine g_aload_n d_28_127 rfl rfl ?_
  refine g_iload_n d_28_128 rfl rfl ?_
  refine g_iload_n d_28_129 rfl rfl ?_
  exact g_callVI (mj := 30) 8 [.int v1, .int v3] [] d_28_130 wd_167 mo_30 mc_30 mv_30 rfl rfl rfl (Nat.le_of_ble_eq_true rfl) rfl hdd hC (fun x h' q => g_mask [false, false, false, false] (kk x h' q))

theorem k_28_133 {X : GX} {d : Nat} {h : Hp} {s0 : Int32} (hq : RtX X (some (.int s0)) h) : G X d 28 133 [none, none, none, none] [.int s0] h := by
  refine g_goto (tgt := 137) d_28_133 (by decide) ?_
  exact g_reti d_28_137 rfl hq

theorem k_28_136 {X : GX} {d : Nat} {h : Hp} (hq : RtX X (some (.int ((-1)))) h) : G X d 28 136 [none, none, none, none] [] h := by
  refine g_iconst (v := (-1)) d_28_136 (by decide) ?_
  exact g_reti d_28_137 rfl hq

theorem k_28_138 {X : GX} {d : Nat} {h : Hp} (hq : RtX X (some (.int ((-1)))) h) : G X d 28 138 [none, none, none, none] [] h := by
  refine g_iconst (v := (-1)) d_28_138 (by decide) ?_
  exact g_reti d_28_139 rfl hq

/-! 29 PlayedTruth.put([III)I -/
theorem k_29_0 {X : GX} {d : Nat} {h : Hp} {v0 : Nat} {v1 : Int32} {v2 : Int32} (b0 : IA v0 v1) (hq : RtX X (some (.int (h v0 (Int32.toNatClampNeg v1)))) (wr h v0 (Int32.toNatClampNeg v1) v2)) : G X d 29 0 [some (.ref v0), some (.int v1), some (.int v2), none] [] h := by
  refine g_aload_n d_29_0 rfl rfl ?_
  refine g_iload_n d_29_1 rfl rfl ?_
  refine g_iald d_29_2 b0 ?_
  refine g_istore_n d_29_3 rfl (Nat.le_of_ble_eq_true rfl) rfl ?_
  refine g_aload_n d_29_4 rfl rfl ?_
  refine g_iload_n d_29_5 rfl rfl ?_
  refine g_iload_n d_29_6 rfl rfl ?_
  refine g_iast d_29_7 b0 ?_
  refine g_iload_n d_29_8 rfl rfl ?_
  exact g_reti d_29_9 rfl hq

/-! 30 PlayedTruth.putSettled(II)I -/
theorem k_30_0 {X : GX} {d : Nat} {h : Hp} {v1 : Int32} {v2 : Int32} {d' : Nat} {Q' : Int32 → Hp → Prop} (hdd : d' < d) (hC : CI d' 15 [.ref 13, .int v1] h Q') (kk : ∀ x h', Q' x h' → G X d 30 8 [some (.ref 0), some (.int v1), some (.int v2), none] [.int x] h') : G X d 30 0 [some (.ref 0), some (.int v1), some (.int v2), none] [] h := by
  refine g_aload_n d_30_0 rfl rfl ?_
  refine g_getf (ci := 8) (k := 1) d_30_1 wd_130 (Nat.le_of_ble_eq_true rfl) rfl rfl ?_
  refine g_iload_n d_30_4 rfl rfl ?_
  exact g_callVI (mj := 15) 3 [.int v1] [] d_30_5 wd_147 mo_15 mc_15 mv_15 rfl rfl rfl (Nat.le_of_ble_eq_true rfl) rfl hdd hC kk

theorem k_30_8 {X : GX} {d : Nat} {h : Hp} {v1 : Int32} {v2 : Int32} {s0 : Int32} (kt : s0 = 0 → G X d 30 15 [some (.ref 0), some (.int v1), some (.int v2), none] [] h) (kf : ¬ s0 = 0 → G X d 30 11 [some (.ref 0), some (.int v1), some (.int v2), none] [] h) : G X d 30 8 [some (.ref 0), some (.int v1), some (.int v2), none] [.int s0] h := by
  exact g_if_eq (tgt := 15) d_30_8 (by decide) kt kf

theorem k_30_11 {X : GX} {d : Nat} {h : Hp} {v1 : Int32} {v2 : Int32} (hq : RtX X (some (.int 1)) (wr h 13 2 (((h 13 2) &&& ((1 <<< (v1 &&& 31)) ^^^ ((-1)))) ||| (v2 <<< (v1 &&& 31))))) : G X d 30 11 [some (.ref 0), some (.int v1), some (.int v2), none] [] h := by
  refine g_iconst (v := 1) d_30_11 (by decide) ?_
  refine g_goto (tgt := 16) d_30_12 (by decide) ?_
  refine g_istore_n d_30_16 rfl (Nat.le_of_ble_eq_true rfl) rfl ?_
  refine g_aload_n d_30_17 rfl rfl ?_
  refine g_getf (ci := 8) (k := 1) d_30_18 wd_130 (Nat.le_of_ble_eq_true rfl) rfl rfl ?_
  refine g_aload_n d_30_21 rfl rfl ?_
  refine g_getf (ci := 8) (k := 1) d_30_22 wd_130 (Nat.le_of_ble_eq_true rfl) rfl rfl ?_
  refine g_getf (ci := 3) (k := 2) d_30_25 wd_41 (Nat.le_of_ble_eq_true rfl) rfl rfl ?_
  refine g_iconst (v := 1) d_30_28 (by decide) ?_
  refine g_iload_n d_30_29 rfl rfl ?_
  refine g_ishl d_30_30 ?_
  refine g_iconst (v := (-1)) d_30_31 (by decide) ?_
  refine g_ixor d_30_32 ?_
  refine g_iand d_30_33 ?_
  refine g_iload_n d_30_34 rfl rfl ?_
  refine g_iload_n d_30_35 rfl rfl ?_
  refine g_ishl d_30_36 ?_
  refine g_ior d_30_37 ?_
  refine g_putf (ci := 3) (k := 2) d_30_38 wd_41 (Nat.le_of_ble_eq_true rfl) (Nat.le_of_ble_eq_true rfl) rfl rfl (Or.inl ⟨rfl, rfl⟩) rfl ?_
  refine g_iload_n d_30_41 rfl rfl ?_
  exact g_reti d_30_42 rfl hq

theorem k_30_15 {X : GX} {d : Nat} {h : Hp} {v1 : Int32} {v2 : Int32} (hq : RtX X (some (.int 0)) (wr h 13 2 (((h 13 2) &&& ((1 <<< (v1 &&& 31)) ^^^ ((-1)))) ||| (v2 <<< (v1 &&& 31))))) : G X d 30 15 [some (.ref 0), some (.int v1), some (.int v2), none] [] h := by
  refine g_iconst (v := 0) d_30_15 (by decide) ?_
  refine g_istore_n d_30_16 rfl (Nat.le_of_ble_eq_true rfl) rfl ?_
  refine g_aload_n d_30_17 rfl rfl ?_
  refine g_getf (ci := 8) (k := 1) d_30_18 wd_130 (Nat.le_of_ble_eq_true rfl) rfl rfl ?_
  refine g_aload_n d_30_21 rfl rfl ?_
  refine g_getf (ci := 8) (k := 1) d_30_22 wd_130 (Nat.le_of_ble_eq_true rfl) rfl rfl ?_
  refine g_getf (ci := 3) (k := 2) d_30_25 wd_41 (Nat.le_of_ble_eq_true rfl) rfl rfl ?_
  refine g_iconst (v := 1) d_30_28 (by decide) ?_
  refine g_iload_n d_30_29 rfl rfl ?_
  refine g_ishl d_30_30 ?_
  refine g_iconst (v := (-1)) d_30_31 (by decide) ?_
  refine g_ixor d_30_32 ?_
  refine g_iand d_30_33 ?_
  refine g_iload_n d_30_34 rfl rfl ?_
  refine g_iload_n d_30_35 rfl rfl ?_
  refine g_ishl d_30_36 ?_
  refine g_ior d_30_37 ?_
  refine g_putf (ci := 3) (k := 2) d_30_38 wd_41 (Nat.le_of_ble_eq_true rfl) (Nat.le_of_ble_eq_true rfl) rfl rfl (Or.inl ⟨rfl, rfl⟩) rfl ?_
  refine g_iload_n d_30_41 rfl rfl ?_
  exact g_reti d_30_42 rfl hq

/-! 31 PlayedTruth.remake(II)I -/
theorem k_31_0 {X : GX} {d : Nat} {h : Hp} {v1 : Int32} {v2 : Int32} {d' : Nat} {Q' : Int32 → Hp → Prop} (hdd : d' < d) (hC : CI d' 14 [.ref 0, .int v1] h Q') (kk : ∀ x h', Q' x h' → G X d 31 5 [some (.ref 0), some (.int v1), some (.int v2)] [.int x] h') : G X d 31 0 [some (.ref 0), some (.int v1), some (.int v2)] [] h := by
  refine g_aload_n d_31_0 rfl rfl ?_
  refine g_iload_n d_31_1 rfl rfl ?_
  exact g_callVI (mj := 14) 8 [.int v1] [] d_31_2 wd_146 mo_14 mc_14 mv_14 rfl rfl rfl (Nat.le_of_ble_eq_true rfl) rfl hdd hC kk

theorem k_31_5 {X : GX} {d : Nat} {h : Hp} {v1 : Int32} {v2 : Int32} {s0 : Int32} (kt : s0 = 0 → G X d 31 32 [none, none, none] [] h) (kf : ¬ s0 = 0 → G X d 31 8 [some (.ref 0), some (.int v1), some (.int v2)] [] h) : G X d 31 5 [some (.ref 0), some (.int v1), some (.int v2)] [.int s0] h := by
  exact g_if_eq (tgt := 32) d_31_5 (by decide) (fun q => g_mask [false, false, false] (kt q)) kf

theorem k_31_8 {X : GX} {d : Nat} {h : Hp} {v1 : Int32} {v2 : Int32} {d' : Nat} {Q' : Int32 → Hp → Prop} (hdd : d' < d) (hC : CI d' 11 [.int v2, .int 1, .int 5] h Q') (kk : ∀ x h', Q' x h' → G X d 31 14 [some (.ref 0), some (.int v1), some (.int v2)] [.int x] h') : G X d 31 8 [some (.ref 0), some (.int v1), some (.int v2)] [] h := by
  refine g_iload_n d_31_8 rfl rfl ?_
  refine g_iconst (v := 1) d_31_9 (by decide) ?_
  refine g_iconst (v := 5) d_31_10 (by decide) ?_
  exact g_callSI (mj := 11) [.int v2, .int 1, .int 5] [] d_31_11 wd_143 mo_11 mc_11 mv_11 rfl rfl (Nat.le_of_ble_eq_true rfl)  hdd hC kk

theorem k_31_14 {X : GX} {d : Nat} {h : Hp} {v1 : Int32} {v2 : Int32} {s0 : Int32} (kt : s0 = 0 → G X d 31 32 [none, none, none] [] h) (kf : ¬ s0 = 0 → G X d 31 17 [some (.ref 0), some (.int v1), some (.int v2)] [] h) : G X d 31 14 [some (.ref 0), some (.int v1), some (.int v2)] [.int s0] h := by
  exact g_if_eq (tgt := 32) d_31_14 (by decide) (fun q => g_mask [false, false, false] (kt q)) kf

theorem k_31_17 {X : GX} {d : Nat} {h : Hp} {v1 : Int32} {v2 : Int32} {d' : Nat} {Q' : Int32 → Hp → Prop} (hdd : d' < d) (hC : CI d' 29 [.ref 2, .int v1, .int v2] h Q') (kk : ∀ x h', Q' x h' → G X d 31 29 [none, none, none] [.int x] h') : G X d 31 17 [some (.ref 0), some (.int v1), some (.int v2)] [] h := by
  refine g_aload_n d_31_17 rfl rfl ?_
  refine g_getf (ci := 8) (k := 0) d_31_18 wd_129 (Nat.le_of_ble_eq_true rfl) rfl rfl ?_
  refine g_getf (ci := 6) (k := 0) d_31_21 wd_15 (Nat.le_of_ble_eq_true rfl) rfl rfl ?_
  refine g_iload_n d_31_24 rfl rfl ?_
  refine g_iload_n d_31_25 rfl rfl ?_
  exact g_callSI (mj := 29) [.ref 2, .int v1, .int v2] [] d_31_26 wd_166 mo_29 mc_29 mv_29 rfl rfl (Nat.le_of_ble_eq_true rfl)  hdd hC (fun x h' q => g_mask [false, false, false] (kk x h' q))

theorem k_31_29 {X : GX} {d : Nat} {h : Hp} {s0 : Int32} (hq : RtX X (some (.int s0)) h) : G X d 31 29 [none, none, none] [.int s0] h := by
  refine g_goto (tgt := 33) d_31_29 (by decide) ?_
  exact g_reti d_31_33 rfl hq

theorem k_31_32 {X : GX} {d : Nat} {h : Hp} (hq : RtX X (some (.int ((-1)))) h) : G X d 31 32 [none, none, none] [] h := by
  refine g_iconst (v := (-1)) d_31_32 (by decide) ?_
  exact g_reti d_31_33 rfl hq

/-! 32 PlayedTruth.house(II)I -/
theorem k_32_0 {X : GX} {d : Nat} {h : Hp} {v1 : Int32} {v2 : Int32} {d' : Nat} {Q' : Int32 → Hp → Prop} (hdd : d' < d) (hC : CI d' 11 [.int v1, .int 0, .int 15] h Q') (kk : ∀ x h', Q' x h' → G X d 32 7 [some (.ref 0), some (.int v1), some (.int v2)] [.int x] h') : G X d 32 0 [some (.ref 0), some (.int v1), some (.int v2)] [] h := by
  refine g_iload_n d_32_0 rfl rfl ?_
  refine g_iconst (v := 0) d_32_1 (by decide) ?_
  refine g_bipush (v := 15) d_32_2 (by decide) ?_
  exact g_callSI (mj := 11) [.int v1, .int 0, .int 15] [] d_32_4 wd_143 mo_11 mc_11 mv_11 rfl rfl (Nat.le_of_ble_eq_true rfl)  hdd hC kk

theorem k_32_7 {X : GX} {d : Nat} {h : Hp} {v1 : Int32} {v2 : Int32} {s0 : Int32} (kt : s0 = 0 → G X d 32 20 [none, none, none] [] h) (kf : ¬ s0 = 0 → G X d 32 10 [some (.ref 0), some (.int v1), some (.int v2)] [] h) : G X d 32 7 [some (.ref 0), some (.int v1), some (.int v2)] [.int s0] h := by
  exact g_if_eq (tgt := 20) d_32_7 (by decide) (fun q => g_mask [false, false, false] (kt q)) kf

theorem k_32_10 {X : GX} {d : Nat} {h : Hp} {v1 : Int32} {v2 : Int32} {d' : Nat} {Q' : Int32 → Hp → Prop} (hdd : d' < d) (hC : CI d' 11 [.int v2, .int 0, .int 15] h Q') (kk : ∀ x h', Q' x h' → G X d 32 17 [some (.ref 0), some (.int v1), some (.int v2)] [.int x] h') : G X d 32 10 [some (.ref 0), some (.int v1), some (.int v2)] [] h := by
  refine g_iload_n d_32_10 rfl rfl ?_
  refine g_iconst (v := 0) d_32_11 (by decide) ?_
  refine g_bipush (v := 15) d_32_12 (by decide) ?_
  exact g_callSI (mj := 11) [.int v2, .int 0, .int 15] [] d_32_14 wd_143 mo_11 mc_11 mv_11 rfl rfl (Nat.le_of_ble_eq_true rfl)  hdd hC kk

theorem k_32_17 {X : GX} {d : Nat} {h : Hp} {v1 : Int32} {v2 : Int32} {s0 : Int32} (kt : ¬ s0 = 0 → G X d 32 22 [some (.ref 0), some (.int v1), some (.int v2)] [] h) (kf : s0 = 0 → G X d 32 20 [none, none, none] [] h) : G X d 32 17 [some (.ref 0), some (.int v1), some (.int v2)] [.int s0] h := by
  exact g_if_ne (tgt := 22) d_32_17 (by decide) kt (fun q => g_mask [false, false, false] (kf q))

theorem k_32_20 {X : GX} {d : Nat} {h : Hp} (hq : RtX X (some (.int ((-1)))) h) : G X d 32 20 [none, none, none] [] h := by
  refine g_iconst (v := (-1)) d_32_20 (by decide) ?_
  exact g_reti d_32_21 rfl hq

theorem k_32_22 {X : GX} {d : Nat} {h : Hp} {v1 : Int32} {v2 : Int32} {d' : Nat} {Q' : Int32 → Hp → Prop} (hdd : d' < d) (hC : CI d' 29 [.ref 4, .int v1, .int v2] h Q') (kk : ∀ x h', Q' x h' → G X d 32 34 [none, none, none] [.int x] h') : G X d 32 22 [some (.ref 0), some (.int v1), some (.int v2)] [] h := by
  refine g_aload_n d_32_22 rfl rfl ?_
  refine g_getf (ci := 8) (k := 0) d_32_23 wd_129 (Nat.le_of_ble_eq_true rfl) rfl rfl ?_
  refine g_getf (ci := 6) (k := 2) d_32_26 wd_19 (Nat.le_of_ble_eq_true rfl) rfl rfl ?_
  refine g_iload_n d_32_29 rfl rfl ?_
  refine g_iload_n d_32_30 rfl rfl ?_
  exact g_callSI (mj := 29) [.ref 4, .int v1, .int v2] [] d_32_31 wd_166 mo_29 mc_29 mv_29 rfl rfl (Nat.le_of_ble_eq_true rfl)  hdd hC (fun x h' q => g_mask [false, false, false] (kk x h' q))

theorem k_32_34 {X : GX} {d : Nat} {h : Hp} {s0 : Int32} (hq : RtX X (some (.int s0)) h) : G X d 32 34 [none, none, none] [.int s0] h := by
  exact g_reti d_32_34 rfl hq

/-! 33 PlayedTruth.place(III)I -/
theorem k_33_0 {X : GX} {d : Nat} {h : Hp} {v1 : Int32} {v2 : Int32} {v3 : Int32} {d' : Nat} {Q' : Int32 → Hp → Prop} (hdd : d' < d) (hC : CI d' 12 [.int v1] h Q') (kk : ∀ x h', Q' x h' → G X d 33 4 [some (.ref 0), some (.int v1), some (.int v2), some (.int v3)] [.int x] h') : G X d 33 0 [some (.ref 0), some (.int v1), some (.int v2), some (.int v3)] [] h := by
  refine g_iload_n d_33_0 rfl rfl ?_
  exact g_callSI (mj := 12) [.int v1] [] d_33_1 wd_144 mo_12 mc_12 mv_12 rfl rfl (Nat.le_of_ble_eq_true rfl)  hdd hC kk

theorem k_33_4 {X : GX} {d : Nat} {h : Hp} {v1 : Int32} {v2 : Int32} {v3 : Int32} {s0 : Int32} (kt : s0 = 0 → G X d 33 26 [none, none, none, none] [] h) (kf : ¬ s0 = 0 → G X d 33 7 [some (.ref 0), some (.int v1), some (.int v2), some (.int v3)] [] h) : G X d 33 4 [some (.ref 0), some (.int v1), some (.int v2), some (.int v3)] [.int s0] h := by
  exact g_if_eq (tgt := 26) d_33_4 (by decide) (fun q => g_mask [false, false, false, false] (kt q)) kf

theorem k_33_7 {X : GX} {d : Nat} {h : Hp} {v1 : Int32} {v2 : Int32} {v3 : Int32} {d' : Nat} {Q' : Int32 → Hp → Prop} (hdd : d' < d) (hC : CI d' 11 [.int v2, .int 0, .int 1] h Q') (kk : ∀ x h', Q' x h' → G X d 33 13 [some (.ref 0), some (.int v1), some (.int v2), some (.int v3)] [.int x] h') : G X d 33 7 [some (.ref 0), some (.int v1), some (.int v2), some (.int v3)] [] h := by
  refine g_iload_n d_33_7 rfl rfl ?_
  refine g_iconst (v := 0) d_33_8 (by decide) ?_
  refine g_iconst (v := 1) d_33_9 (by decide) ?_
  exact g_callSI (mj := 11) [.int v2, .int 0, .int 1] [] d_33_10 wd_143 mo_11 mc_11 mv_11 rfl rfl (Nat.le_of_ble_eq_true rfl)  hdd hC kk

theorem k_33_13 {X : GX} {d : Nat} {h : Hp} {v1 : Int32} {v2 : Int32} {v3 : Int32} {s0 : Int32} (kt : s0 = 0 → G X d 33 26 [none, none, none, none] [] h) (kf : ¬ s0 = 0 → G X d 33 16 [some (.ref 0), some (.int v1), some (.int v2), some (.int v3)] [] h) : G X d 33 13 [some (.ref 0), some (.int v1), some (.int v2), some (.int v3)] [.int s0] h := by
  exact g_if_eq (tgt := 26) d_33_13 (by decide) (fun q => g_mask [false, false, false, false] (kt q)) kf

theorem k_33_16 {X : GX} {d : Nat} {h : Hp} {v1 : Int32} {v2 : Int32} {v3 : Int32} {d' : Nat} {Q' : Int32 → Hp → Prop} (hdd : d' < d) (hC : CI d' 11 [.int v3, .int 0, .int 9] h Q') (kk : ∀ x h', Q' x h' → G X d 33 23 [some (.ref 0), some (.int v1), some (.int v2), some (.int v3)] [.int x] h') : G X d 33 16 [some (.ref 0), some (.int v1), some (.int v2), some (.int v3)] [] h := by
  refine g_iload_n d_33_16 rfl rfl ?_
  refine g_iconst (v := 0) d_33_17 (by decide) ?_
  refine g_bipush (v := 9) d_33_18 (by decide) ?_
  exact g_callSI (mj := 11) [.int v3, .int 0, .int 9] [] d_33_20 wd_143 mo_11 mc_11 mv_11 rfl rfl (Nat.le_of_ble_eq_true rfl)  hdd hC kk

theorem k_33_23 {X : GX} {d : Nat} {h : Hp} {v1 : Int32} {v2 : Int32} {v3 : Int32} {s0 : Int32} (kt : ¬ s0 = 0 → G X d 33 28 [some (.ref 0), some (.int v1), some (.int v2), some (.int v3)] [] h) (kf : s0 = 0 → G X d 33 26 [none, none, none, none] [] h) : G X d 33 23 [some (.ref 0), some (.int v1), some (.int v2), some (.int v3)] [.int s0] h := by
  exact g_if_ne (tgt := 28) d_33_23 (by decide) kt (fun q => g_mask [false, false, false, false] (kf q))

theorem k_33_26 {X : GX} {d : Nat} {h : Hp} (hq : RtX X (some (.int ((-1)))) h) : G X d 33 26 [none, none, none, none] [] h := by
  refine g_iconst (v := (-1)) d_33_26 (by decide) ?_
  exact g_reti d_33_27 rfl hq

theorem k_33_28 {X : GX} {d : Nat} {h : Hp} {v1 : Int32} {v2 : Int32} {v3 : Int32} (kt : ¬ v2 = 0 → G X d 33 42 [some (.ref 0), some (.int v1), none, some (.int v3)] [] h) (kf : v2 = 0 → G X d 33 32 [some (.ref 0), some (.int v1), none, some (.int v3)] [] h) : G X d 33 28 [some (.ref 0), some (.int v1), some (.int v2), some (.int v3)] [] h := by
  refine g_iload_n d_33_28 rfl rfl ?_
  exact g_if_ne (tgt := 42) d_33_29 (by decide) (fun q => g_mask [true, true, false, true] (kt q)) (fun q => g_mask [true, true, false, true] (kf q))

theorem k_33_32 {X : GX} {d : Nat} {h : Hp} {v1 : Int32} {v3 : Int32} {d' : Nat} {Q' : Int32 → Hp → Prop} (hdd : d' < d) (hC : CI d' 29 [.ref 5, .int v1, .int v3] h Q') (kk : ∀ x h', Q' x h' → G X d 33 54 [none, none, none, none] [.int x] h') : G X d 33 32 [some (.ref 0), some (.int v1), none, some (.int v3)] [] h := by
  refine g_aload_n d_33_32 rfl rfl ?_
  refine g_getf (ci := 8) (k := 0) d_33_33 wd_129 (Nat.le_of_ble_eq_true rfl) rfl rfl ?_
  refine g_getf (ci := 6) (k := 3) d_33_36 wd_21 (Nat.le_of_ble_eq_true rfl) rfl rfl ?_
  refine g_goto (tgt := 49) d_33_39 (by decide) ?_
  refine g_iload_n d_33_49 rfl rfl ?_
  refine g_iload_n d_33_50 rfl rfl ?_
  exact g_callSI (mj := 29) [.ref 5, .int v1, .int v3] [] d_33_51 wd_166 mo_29 mc_29 mv_29 rfl rfl (Nat.le_of_ble_eq_true rfl)  hdd hC (fun x h' q => g_mask [false, false, false, false] (kk x h' q))

theorem k_33_42 {X : GX} {d : Nat} {h : Hp} {v1 : Int32} {v3 : Int32} {d' : Nat} {Q' : Int32 → Hp → Prop} (hdd : d' < d) (hC : CI d' 29 [.ref 6, .int v1, .int v3] h Q') (kk : ∀ x h', Q' x h' → G X d 33 54 [none, none, none, none] [.int x] h') : G X d 33 42 [some (.ref 0), some (.int v1), none, some (.int v3)] [] h := by
  refine g_aload_n d_33_42 rfl rfl ?_
  refine g_getf (ci := 8) (k := 0) d_33_43 wd_129 (Nat.le_of_ble_eq_true rfl) rfl rfl ?_
  refine g_getf (ci := 6) (k := 4) d_33_46 wd_23 (Nat.le_of_ble_eq_true rfl) rfl rfl ?_
  refine g_iload_n d_33_49 rfl rfl ?_
  refine g_iload_n d_33_50 rfl rfl ?_
  exact g_callSI (mj := 29) [.ref 6, .int v1, .int v3] [] d_33_51 wd_166 mo_29 mc_29 mv_29 rfl rfl (Nat.le_of_ble_eq_true rfl)  hdd hC (fun x h' q => g_mask [false, false, false, false] (kk x h' q))

theorem k_33_54 {X : GX} {d : Nat} {h : Hp} {s0 : Int32} (hq : RtX X (some (.int s0)) h) : G X d 33 54 [none, none, none, none] [.int s0] h := by
  exact g_reti d_33_54 rfl hq

/-! 34 PlayedTruth.placeOf(II)I -/
theorem k_34_0 {X : GX} {d : Nat} {h : Hp} {v1 : Int32} {v2 : Int32} {d' : Nat} {Q' : Int32 → Hp → Prop} (hdd : d' < d) (hC : CI d' 12 [.int v1] h Q') (kk : ∀ x h', Q' x h' → G X d 34 4 [some (.ref 0), some (.int v1), some (.int v2)] [.int x] h') : G X d 34 0 [some (.ref 0), some (.int v1), some (.int v2)] [] h := by
  refine g_iload_n d_34_0 rfl rfl ?_
  exact g_callSI (mj := 12) [.int v1] [] d_34_1 wd_144 mo_12 mc_12 mv_12 rfl rfl (Nat.le_of_ble_eq_true rfl)  hdd hC kk

theorem k_34_4 {X : GX} {d : Nat} {h : Hp} {v1 : Int32} {v2 : Int32} {s0 : Int32} (kt : s0 = 0 → G X d 34 16 [none, none, none] [] h) (kf : ¬ s0 = 0 → G X d 34 7 [some (.ref 0), some (.int v1), some (.int v2)] [] h) : G X d 34 4 [some (.ref 0), some (.int v1), some (.int v2)] [.int s0] h := by
  exact g_if_eq (tgt := 16) d_34_4 (by decide) (fun q => g_mask [false, false, false] (kt q)) kf

theorem k_34_7 {X : GX} {d : Nat} {h : Hp} {v1 : Int32} {v2 : Int32} {d' : Nat} {Q' : Int32 → Hp → Prop} (hdd : d' < d) (hC : CI d' 11 [.int v2, .int 0, .int 1] h Q') (kk : ∀ x h', Q' x h' → G X d 34 13 [some (.ref 0), some (.int v1), some (.int v2)] [.int x] h') : G X d 34 7 [some (.ref 0), some (.int v1), some (.int v2)] [] h := by
  refine g_iload_n d_34_7 rfl rfl ?_
  refine g_iconst (v := 0) d_34_8 (by decide) ?_
  refine g_iconst (v := 1) d_34_9 (by decide) ?_
  exact g_callSI (mj := 11) [.int v2, .int 0, .int 1] [] d_34_10 wd_143 mo_11 mc_11 mv_11 rfl rfl (Nat.le_of_ble_eq_true rfl)  hdd hC kk

theorem k_34_13 {X : GX} {d : Nat} {h : Hp} {v1 : Int32} {v2 : Int32} {s0 : Int32} (kt : ¬ s0 = 0 → G X d 34 18 [some (.ref 0), some (.int v1), some (.int v2)] [] h) (kf : s0 = 0 → G X d 34 16 [none, none, none] [] h) : G X d 34 13 [some (.ref 0), some (.int v1), some (.int v2)] [.int s0] h := by
  exact g_if_ne (tgt := 18) d_34_13 (by decide) kt (fun q => g_mask [false, false, false] (kf q))

theorem k_34_16 {X : GX} {d : Nat} {h : Hp} (hq : RtX X (some (.int ((-1)))) h) : G X d 34 16 [none, none, none] [] h := by
  refine g_iconst (v := (-1)) d_34_16 (by decide) ?_
  exact g_reti d_34_17 rfl hq

theorem k_34_18 {X : GX} {d : Nat} {h : Hp} {v1 : Int32} {v2 : Int32} (kt : ¬ v2 = 0 → G X d 34 34 [some (.ref 0), some (.int v1), none] [] h) (kf : v2 = 0 → G X d 34 22 [some (.ref 0), some (.int v1), none] [] h) : G X d 34 18 [some (.ref 0), some (.int v1), some (.int v2)] [] h := by
  refine g_iload_n d_34_18 rfl rfl ?_
  exact g_if_ne (tgt := 34) d_34_19 (by decide) (fun q => g_mask [true, true, false] (kt q)) (fun q => g_mask [true, true, false] (kf q))

theorem k_34_22 {X : GX} {d : Nat} {h : Hp} {v1 : Int32} (b0 : IA 5 v1) (hq : RtX X (some (.int (h 5 (Int32.toNatClampNeg v1)))) h) : G X d 34 22 [some (.ref 0), some (.int v1), none] [] h := by
  refine g_aload_n d_34_22 rfl rfl ?_
  refine g_getf (ci := 8) (k := 0) d_34_23 wd_129 (Nat.le_of_ble_eq_true rfl) rfl rfl ?_
  refine g_getf (ci := 6) (k := 3) d_34_26 wd_21 (Nat.le_of_ble_eq_true rfl) rfl rfl ?_
  refine g_iload_n d_34_29 rfl rfl ?_
  refine g_iald d_34_30 b0 ?_
  refine g_goto (tgt := 43) d_34_31 (by decide) ?_
  exact g_reti d_34_43 rfl hq

theorem k_34_34 {X : GX} {d : Nat} {h : Hp} {v1 : Int32} (b0 : IA 6 v1) (hq : RtX X (some (.int (h 6 (Int32.toNatClampNeg v1)))) h) : G X d 34 34 [some (.ref 0), some (.int v1), none] [] h := by
  refine g_aload_n d_34_34 rfl rfl ?_
  refine g_getf (ci := 8) (k := 0) d_34_35 wd_129 (Nat.le_of_ble_eq_true rfl) rfl rfl ?_
  refine g_getf (ci := 6) (k := 4) d_34_38 wd_23 (Nat.le_of_ble_eq_true rfl) rfl rfl ?_
  refine g_iload_n d_34_41 rfl rfl ?_
  refine g_iald d_34_42 b0 ?_
  exact g_reti d_34_43 rfl hq

/-! 35 PlayedTruth.ends(I)I -/
theorem k_35_0 {X : GX} {d : Nat} {h : Hp} {v1 : Int32} {d' : Nat} {Q' : Int32 → Hp → Prop} (hdd : d' < d) (hC : CI d' 11 [.int v1, .int 1, .int 16] h Q') (kk : ∀ x h', Q' x h' → G X d 35 7 [some (.ref 0), some (.int v1), none] [.int x] h') : G X d 35 0 [some (.ref 0), some (.int v1), none] [] h := by
  refine g_iload_n d_35_0 rfl rfl ?_
  refine g_iconst (v := 1) d_35_1 (by decide) ?_
  refine g_bipush (v := 16) d_35_2 (by decide) ?_
  exact g_callSI (mj := 11) [.int v1, .int 1, .int 16] [] d_35_4 wd_143 mo_11 mc_11 mv_11 rfl rfl (Nat.le_of_ble_eq_true rfl)  hdd hC kk

theorem k_35_7 {X : GX} {d : Nat} {h : Hp} {v1 : Int32} {s0 : Int32} (kt : ¬ s0 = 0 → G X d 35 12 [some (.ref 0), some (.int v1), none] [] h) (kf : s0 = 0 → G X d 35 10 [none, none, none] [] h) : G X d 35 7 [some (.ref 0), some (.int v1), none] [.int s0] h := by
  exact g_if_ne (tgt := 12) d_35_7 (by decide) kt (fun q => g_mask [false, false, false] (kf q))

theorem k_35_10 {X : GX} {d : Nat} {h : Hp} (hq : RtX X (some (.int ((-1)))) h) : G X d 35 10 [none, none, none] [] h := by
  refine g_iconst (v := (-1)) d_35_10 (by decide) ?_
  exact g_reti d_35_11 rfl hq

theorem k_35_12 {X : GX} {d : Nat} {h : Hp} {v1 : Int32} (kt : (h 13 3) ≤ v1 → G X d 35 26 [some (.ref 0), some (.int v1), none] [] h) (kf : ¬ (h 13 3) ≤ v1 → G X d 35 23 [none, none, none] [] h) : G X d 35 12 [some (.ref 0), some (.int v1), none] [] h := by
  refine g_iload_n d_35_12 rfl rfl ?_
  refine g_aload_n d_35_13 rfl rfl ?_
  refine g_getf (ci := 8) (k := 1) d_35_14 wd_130 (Nat.le_of_ble_eq_true rfl) rfl rfl ?_
  refine g_getf (ci := 3) (k := 3) d_35_17 wd_47 (Nat.le_of_ble_eq_true rfl) rfl rfl ?_
  exact g_icmp_ge (tgt := 26) d_35_20 (by decide) kt (fun q => g_mask [false, false, false] (kf q))

theorem k_35_23 {X : GX} {d : Nat} {h : Hp} (hq : RtX X (some (.int ((-4)))) h) : G X d 35 23 [none, none, none] [] h := by
  refine g_bipush (v := (-4)) d_35_23 (by decide) ?_
  exact g_reti d_35_25 rfl hq

theorem k_35_26 {X : GX} {d : Nat} {h : Hp} {v1 : Int32} (hq : RtX X (some (.int (h 1 8))) (wr h 1 8 v1)) : G X d 35 26 [some (.ref 0), some (.int v1), none] [] h := by
  refine g_aload_n d_35_26 rfl rfl ?_
  refine g_getf (ci := 8) (k := 0) d_35_27 wd_129 (Nat.le_of_ble_eq_true rfl) rfl rfl ?_
  refine g_getf (ci := 6) (k := 8) d_35_30 wd_32 (Nat.le_of_ble_eq_true rfl) rfl rfl ?_
  refine g_istore_n d_35_33 rfl (Nat.le_of_ble_eq_true rfl) rfl ?_
  refine g_aload_n d_35_34 rfl rfl ?_
  refine g_getf (ci := 8) (k := 0) d_35_35 wd_129 (Nat.le_of_ble_eq_true rfl) rfl rfl ?_
  refine g_iload_n d_35_38 rfl rfl ?_
  refine g_putf (ci := 6) (k := 8) d_35_39 wd_32 (Nat.le_of_ble_eq_true rfl) (Nat.le_of_ble_eq_true rfl) rfl rfl (Or.inl ⟨rfl, rfl⟩) rfl ?_
  refine g_iload_n d_35_42 rfl rfl ?_
  exact g_reti d_35_43 rfl hq

/-! 36 PlayedTruth.anew()I -/
theorem k_36_0 {X : GX} {d : Nat} {h : Hp} (hq : RtX X (some (.int (h 13 3))) (wr (wr (wr h 13 3 0) 13 4 0) 13 2 0)) : G X d 36 0 [some (.ref 0), none] [] h := by
  refine g_aload_n d_36_0 rfl rfl ?_
  refine g_getf (ci := 8) (k := 1) d_36_1 wd_130 (Nat.le_of_ble_eq_true rfl) rfl rfl ?_
  refine g_getf (ci := 3) (k := 3) d_36_4 wd_47 (Nat.le_of_ble_eq_true rfl) rfl rfl ?_
  refine g_istore_n d_36_7 rfl (Nat.le_of_ble_eq_true rfl) rfl ?_
  refine g_aload_n d_36_8 rfl rfl ?_
  refine g_getf (ci := 8) (k := 1) d_36_9 wd_130 (Nat.le_of_ble_eq_true rfl) rfl rfl ?_
  refine g_iconst (v := 0) d_36_12 (by decide) ?_
  refine g_putf (ci := 3) (k := 3) d_36_13 wd_47 (Nat.le_of_ble_eq_true rfl) (Nat.le_of_ble_eq_true rfl) rfl rfl (Or.inl ⟨rfl, rfl⟩) rfl ?_
  refine g_aload_n d_36_16 rfl rfl ?_
  refine g_getf (ci := 8) (k := 1) d_36_17 wd_130 (Nat.le_of_ble_eq_true rfl) rfl rfl ?_
  refine g_iconst (v := 0) d_36_20 (by decide) ?_
  refine g_putf (ci := 3) (k := 4) d_36_21 wd_50 (Nat.le_of_ble_eq_true rfl) (Nat.le_of_ble_eq_true rfl) rfl rfl (Or.inl ⟨rfl, rfl⟩) rfl ?_
  refine g_aload_n d_36_24 rfl rfl ?_
  refine g_getf (ci := 8) (k := 1) d_36_25 wd_130 (Nat.le_of_ble_eq_true rfl) rfl rfl ?_
  refine g_iconst (v := 0) d_36_28 (by decide) ?_
  refine g_putf (ci := 3) (k := 2) d_36_29 wd_41 (Nat.le_of_ble_eq_true rfl) (Nat.le_of_ble_eq_true rfl) rfl rfl (Or.inl ⟨rfl, rfl⟩) rfl ?_
  refine g_iload_n d_36_32 rfl rfl ?_
  exact g_reti d_36_33 rfl hq

/-! 37 PlayedTruth.state(I)I -/
theorem k_37_0 {X : GX} {d : Nat} {h : Hp} {v1 : Int32} (k0 : v1 = 0 → G X d 37 44 [some (.ref 0), none] [] h) (k1 : v1 = 1 → G X d 37 52 [some (.ref 0), none] [] h) (k2 : v1 = 2 → G X d 37 60 [some (.ref 0), none] [] h) (k3 : v1 = 3 → G X d 37 68 [some (.ref 0), none] [] h) (k4 : v1 = 4 → G X d 37 88 [some (.ref 0), none] [] h) (k5 : v1 = 5 → G X d 37 96 [some (.ref 0), none] [] h) (k6 : v1 = 6 → G X d 37 111 [some (.ref 0), none] [] h) (kd : ¬ v1 = 0 → ¬ v1 = 1 → ¬ v1 = 2 → ¬ v1 = 3 → ¬ v1 = 4 → ¬ v1 = 5 → ¬ v1 = 6 → G X d 37 123 [none, none] [] h) : G X d 37 0 [some (.ref 0), some (.int v1)] [] h := by
  refine g_iload_n d_37_0 rfl rfl ?_
  exact g_table (tls := [(0, 44), (1, 52), (2, 60), (3, 68), (4, 88), (5, 96), (6, 111)]) (df := 123) d_37_1 (by decide +kernel) ⟨fun q => g_mask [true, false] (k0 q), fun n0 => ⟨fun q => g_mask [true, false] (k1 q), fun n1 => ⟨fun q => g_mask [true, false] (k2 q), fun n2 => ⟨fun q => g_mask [true, false] (k3 q), fun n3 => ⟨fun q => g_mask [true, false] (k4 q), fun n4 => ⟨fun q => g_mask [true, false] (k5 q), fun n5 => ⟨fun q => g_mask [true, false] (k6 q), fun n6 => (g_mask [false, false] (kd n0 n1 n2 n3 n4 n5 n6))⟩⟩⟩⟩⟩⟩⟩

theorem k_37_44 {X : GX} {d : Nat} {h : Hp} (hq : RtX X (some (.int (h 13 3))) h) : G X d 37 44 [some (.ref 0), none] [] h := by
  refine g_aload_n d_37_44 rfl rfl ?_
  refine g_getf (ci := 8) (k := 1) d_37_45 wd_130 (Nat.le_of_ble_eq_true rfl) rfl rfl ?_
  refine g_getf (ci := 3) (k := 3) d_37_48 wd_47 (Nat.le_of_ble_eq_true rfl) rfl rfl ?_
  exact g_reti d_37_51 rfl hq

theorem k_37_52 {X : GX} {d : Nat} {h : Hp} (hq : RtX X (some (.int (h 1 8))) h) : G X d 37 52 [some (.ref 0), none] [] h := by
  refine g_aload_n d_37_52 rfl rfl ?_
  refine g_getf (ci := 8) (k := 0) d_37_53 wd_129 (Nat.le_of_ble_eq_true rfl) rfl rfl ?_
  refine g_getf (ci := 6) (k := 8) d_37_56 wd_32 (Nat.le_of_ble_eq_true rfl) rfl rfl ?_
  exact g_reti d_37_59 rfl hq

theorem k_37_60 {X : GX} {d : Nat} {h : Hp} (hq : RtX X (some (.int (h 13 4))) h) : G X d 37 60 [some (.ref 0), none] [] h := by
  refine g_aload_n d_37_60 rfl rfl ?_
  refine g_getf (ci := 8) (k := 1) d_37_61 wd_130 (Nat.le_of_ble_eq_true rfl) rfl rfl ?_
  refine g_getf (ci := 3) (k := 4) d_37_64 wd_50 (Nat.le_of_ble_eq_true rfl) rfl rfl ?_
  exact g_reti d_37_67 rfl hq

theorem k_37_68 {X : GX} {d : Nat} {h : Hp} {d' : Nat} {Q' : Int32 → Hp → Prop} (hdd : d' < d) (hC : CI d' 38 [.ref 1, .ref 13] h Q') (kk : ∀ x h', Q' x h' → G X d 37 79 [none, none] [.int x] h') : G X d 37 68 [some (.ref 0), none] [] h := by
  refine g_aload_n d_37_68 rfl rfl ?_
  refine g_getf (ci := 8) (k := 0) d_37_69 wd_129 (Nat.le_of_ble_eq_true rfl) rfl rfl ?_
  refine g_aload_n d_37_72 rfl rfl ?_
  refine g_getf (ci := 8) (k := 1) d_37_73 wd_130 (Nat.le_of_ble_eq_true rfl) rfl rfl ?_
  exact g_callVI (mj := 38) 6 [.ref 13] [] d_37_76 wd_175 mo_38 mc_38 mv_38 rfl rfl rfl (Nat.le_of_ble_eq_true rfl) rfl hdd hC (fun x h' q => g_mask [false, false] (kk x h' q))

theorem k_37_79 {X : GX} {d : Nat} {h : Hp} {s0 : Int32} (kt : s0 = 0 → G X d 37 86 [none, none] [] h) (kf : ¬ s0 = 0 → G X d 37 82 [none, none] [] h) : G X d 37 79 [none, none] [.int s0] h := by
  exact g_if_eq (tgt := 86) d_37_79 (by decide) kt kf

theorem k_37_82 {X : GX} {d : Nat} {h : Hp} (hq : RtX X (some (.int 1)) h) : G X d 37 82 [none, none] [] h := by
  refine g_iconst (v := 1) d_37_82 (by decide) ?_
  refine g_goto (tgt := 87) d_37_83 (by decide) ?_
  exact g_reti d_37_87 rfl hq

theorem k_37_86 {X : GX} {d : Nat} {h : Hp} (hq : RtX X (some (.int 0)) h) : G X d 37 86 [none, none] [] h := by
  refine g_iconst (v := 0) d_37_86 (by decide) ?_
  exact g_reti d_37_87 rfl hq

theorem k_37_88 {X : GX} {d : Nat} {h : Hp} (hq : RtX X (some (.int (h 13 2))) h) : G X d 37 88 [some (.ref 0), none] [] h := by
  refine g_aload_n d_37_88 rfl rfl ?_
  refine g_getf (ci := 8) (k := 1) d_37_89 wd_130 (Nat.le_of_ble_eq_true rfl) rfl rfl ?_
  refine g_getf (ci := 3) (k := 2) d_37_92 wd_41 (Nat.le_of_ble_eq_true rfl) rfl rfl ?_
  exact g_reti d_37_95 rfl hq

theorem k_37_96 {X : GX} {d : Nat} {h : Hp} {d' : Nat} {Q' : Int32 → Hp → Prop} (hdd : d' < d) (hC : CI d' 39 [.ref 1, .int (h 13 3)] h Q') (kk : ∀ x h', Q' x h' → G X d 37 110 [none, none] [.int x] h') : G X d 37 96 [some (.ref 0), none] [] h := by
  refine g_aload_n d_37_96 rfl rfl ?_
  refine g_getf (ci := 8) (k := 0) d_37_97 wd_129 (Nat.le_of_ble_eq_true rfl) rfl rfl ?_
  refine g_aload_n d_37_100 rfl rfl ?_
  refine g_getf (ci := 8) (k := 1) d_37_101 wd_130 (Nat.le_of_ble_eq_true rfl) rfl rfl ?_
  refine g_getf (ci := 3) (k := 3) d_37_104 wd_47 (Nat.le_of_ble_eq_true rfl) rfl rfl ?_
  exact g_callVI (mj := 39) 6 [.int (h 13 3)] [] d_37_107 wd_176 mo_39 mc_39 mv_39 rfl rfl rfl (Nat.le_of_ble_eq_true rfl) rfl hdd hC (fun x h' q => g_mask [false, false] (kk x h' q))

theorem k_37_110 {X : GX} {d : Nat} {h : Hp} {s0 : Int32} (hq : RtX X (some (.int s0)) h) : G X d 37 110 [none, none] [.int s0] h := by
  exact g_reti d_37_110 rfl hq

theorem k_37_111 {X : GX} {d : Nat} {h : Hp} {d' : Nat} {Q' : Int32 → Hp → Prop} (hdd : d' < d) (hC : CI d' 40 [.ref 1, .ref 13] h Q') (kk : ∀ x h', Q' x h' → G X d 37 122 [none, none] [.int x] h') : G X d 37 111 [some (.ref 0), none] [] h := by
  refine g_aload_n d_37_111 rfl rfl ?_
  refine g_getf (ci := 8) (k := 0) d_37_112 wd_129 (Nat.le_of_ble_eq_true rfl) rfl rfl ?_
  refine g_aload_n d_37_115 rfl rfl ?_
  refine g_getf (ci := 8) (k := 1) d_37_116 wd_130 (Nat.le_of_ble_eq_true rfl) rfl rfl ?_
  exact g_callVI (mj := 40) 6 [.ref 13] [] d_37_119 wd_177 mo_40 mc_40 mv_40 rfl rfl rfl (Nat.le_of_ble_eq_true rfl) rfl hdd hC (fun x h' q => g_mask [false, false] (kk x h' q))

theorem k_37_122 {X : GX} {d : Nat} {h : Hp} {s0 : Int32} (hq : RtX X (some (.int s0)) h) : G X d 37 122 [none, none] [.int s0] h := by
  exact g_reti d_37_122 rfl hq

theorem k_37_123 {X : GX} {d : Nat} {h : Hp} (hq : RtX X (some (.int ((-1)))) h) : G X d 37 123 [none, none] [] h := by
  refine g_iconst (v := (-1)) d_37_123 (by decide) ?_
  exact g_reti d_37_124 rfl hq

/-! 41 PlayedTruth.feed(JI)I -/
theorem k_41_0 {X : GX} {d : Nat} {h : Hp} {v1 : Int64} {v3 : Int32} {d' : Nat} {Q' : Int32 → Hp → Prop} (hdd : d' < d) (hC : CI d' 11 [.int v3, .int 1, .int 8] h Q') (kk : ∀ x h', Q' x h' → G X d 41 7 [some (.ref 0), some (.long v1), none, some (.int v3)] [.int x] h') : G X d 41 0 [some (.ref 0), some (.long v1), none, some (.int v3)] [] h := by
  refine g_iload_n d_41_0 rfl rfl ?_
  refine g_iconst (v := 1) d_41_1 (by decide) ?_
  refine g_bipush (v := 8) d_41_2 (by decide) ?_
  exact g_callSI (mj := 11) [.int v3, .int 1, .int 8] [] d_41_4 wd_143 mo_11 mc_11 mv_11 rfl rfl (Nat.le_of_ble_eq_true rfl)  hdd hC kk

theorem k_41_7 {X : GX} {d : Nat} {h : Hp} {v1 : Int64} {v3 : Int32} {s0 : Int32} (kt : ¬ s0 = 0 → G X d 41 12 [some (.ref 0), some (.long v1), none, some (.int v3)] [] h) (kf : s0 = 0 → G X d 41 10 [none, none, none, none] [] h) : G X d 41 7 [some (.ref 0), some (.long v1), none, some (.int v3)] [.int s0] h := by
  exact g_if_ne (tgt := 12) d_41_7 (by decide) kt (fun q => g_mask [false, false, false, false] (kf q))

theorem k_41_10 {X : GX} {d : Nat} {h : Hp} (hq : RtX X (some (.int ((-1)))) h) : G X d 41 10 [none, none, none, none] [] h := by
  refine g_iconst (v := (-1)) d_41_10 (by decide) ?_
  exact g_reti d_41_11 rfl hq

theorem k_41_12 {X : GX} {d : Nat} {h : Hp} {v1 : Int64} {v3 : Int32} {d' : Nat} {Q' : Int32 → Hp → Prop} (hdd : d' < d) (hC : CI d' 42 [.ref 21, .int v3] h Q') (kk : ∀ x h', Q' x h' → G X d 41 20 [some (.ref 0), some (.long v1), none, some (.int v3)] [.int x] h') : G X d 41 12 [some (.ref 0), some (.long v1), none, some (.int v3)] [] h := by
  refine g_aload_n d_41_12 rfl rfl ?_
  refine g_getf (ci := 8) (k := 3) d_41_13 wd_132 (Nat.le_of_ble_eq_true rfl) rfl rfl ?_
  refine g_iload_n d_41_16 rfl rfl ?_
  exact g_callVI (mj := 42) 4 [.int v3] [] d_41_17 wd_179 mo_42 mc_42 mv_42 rfl rfl rfl (Nat.le_of_ble_eq_true rfl) rfl hdd hC kk

theorem k_41_20 {X : GX} {d : Nat} {h : Hp} {v1 : Int64} {v3 : Int32} {s0 : Int32} (kt : ¬ s0 = 0 → G X d 41 26 [some (.ref 0), some (.long v1), none, some (.int v3)] [] h) (kf : s0 = 0 → G X d 41 23 [none, none, none, none] [] h) : G X d 41 20 [some (.ref 0), some (.long v1), none, some (.int v3)] [.int s0] h := by
  exact g_if_ne (tgt := 26) d_41_20 (by decide) kt (fun q => g_mask [false, false, false, false] (kf q))

theorem k_41_23 {X : GX} {d : Nat} {h : Hp} (hq : RtX X (some (.int ((-2)))) h) : G X d 41 23 [none, none, none, none] [] h := by
  refine g_bipush (v := (-2)) d_41_23 (by decide) ?_
  exact g_reti d_41_25 rfl hq

theorem k_41_26 {X : GX} {d : Nat} {h : Hp} {v1 : Int64} {v3 : Int32} {d' : Nat} {Q' : Hp → Prop} (hdd : d' < d) (hC : CV d' 43 [.ref 21, .long v1, .int v3] h Q') (kk : ∀ h', Q' h' → G X d 41 35 [some (.ref 0), none, none, none] [] h') : G X d 41 26 [some (.ref 0), some (.long v1), none, some (.int v3)] [] h := by
  refine g_aload_n d_41_26 rfl rfl ?_
  refine g_getf (ci := 8) (k := 3) d_41_27 wd_132 (Nat.le_of_ble_eq_true rfl) rfl rfl ?_
  refine g_lload_n d_41_30 rfl rfl ?_
  refine g_iload_n d_41_31 rfl rfl ?_
  exact g_callVV (mj := 43) 4 [.long v1, .int v3] [] d_41_32 wd_180 mo_43 mc_43 mv_43 rfl rfl rfl (Nat.le_of_ble_eq_true rfl) rfl hdd hC (fun h' q => g_mask [true, false, false, false] (kk h' q))

theorem k_41_35 {X : GX} {d : Nat} {h : Hp} (hq : RtX X (some (.int (h 21 1))) h) : G X d 41 35 [some (.ref 0), none, none, none] [] h := by
  refine g_aload_n d_41_35 rfl rfl ?_
  refine g_getf (ci := 8) (k := 3) d_41_36 wd_132 (Nat.le_of_ble_eq_true rfl) rfl rfl ?_
  refine g_getf (ci := 4) (k := 1) d_41_39 wd_76 (Nat.le_of_ble_eq_true rfl) rfl rfl ?_
  exact g_reti d_41_42 rfl hq

/-! 44 PlayedTruth.rules()I -/
theorem k_44_0 {X : GX} {d : Nat} {h : Hp} {d' : Nat} {Q' : Int32 → Hp → Prop} (hdd : d' < d) (hC : CI d' 45 [.ref 21] h Q') (kk : ∀ x h', Q' x h' → G X d 44 7 [some (.ref 0), none] [.int x] h') : G X d 44 0 [some (.ref 0), none] [] h := by
  refine g_aload_n d_44_0 rfl rfl ?_
  refine g_getf (ci := 8) (k := 3) d_44_1 wd_132 (Nat.le_of_ble_eq_true rfl) rfl rfl ?_
  exact g_callVI (mj := 45) 4 [] [] d_44_4 wd_183 mo_45 mc_45 mv_45 rfl rfl rfl (Nat.le_of_ble_eq_true rfl) rfl hdd hC kk

theorem k_44_7 {X : GX} {d : Nat} {h : Hp} {s0 : Int32} (kt : ¬ s0 = 0 → G X d 44 23 [some (.ref 0), none] [] h) (kf : s0 = 0 → G X d 44 12 [some (.ref 0), none] [] h) : G X d 44 7 [some (.ref 0), none] [.int s0] h := by
  refine g_istore_n d_44_7 rfl (Nat.le_of_ble_eq_true rfl) rfl ?_
  refine g_iload_n d_44_8 rfl rfl ?_
  exact g_if_ne (tgt := 23) d_44_9 (by decide) (fun q => g_mask [true, false] (kt q)) (fun q => g_mask [true, false] (kf q))

theorem k_44_12 {X : GX} {d : Nat} {h : Hp} (hq : RtX X (some (.int (((-100)) - (h 21 3)))) h) : G X d 44 12 [some (.ref 0), none] [] h := by
  refine g_bipush (v := (-100)) d_44_12 (by decide) ?_
  refine g_aload_n d_44_14 rfl rfl ?_
  refine g_getf (ci := 8) (k := 3) d_44_15 wd_132 (Nat.le_of_ble_eq_true rfl) rfl rfl ?_
  refine g_getf (ci := 4) (k := 3) d_44_18 wd_80 (Nat.le_of_ble_eq_true rfl) rfl rfl ?_
  refine g_isub d_44_21 ?_
  exact g_reti d_44_22 rfl hq

theorem k_44_23 {X : GX} {d : Nat} {h : Hp} {d' : Nat} {Q' : Hp → Prop} (hdd : d' < d) (hC : CV d' 78 [.ref 7, .ref 23] h Q') (kk : ∀ h', Q' h' → G X d 44 40 [some (.ref 0), none] [] h') : G X d 44 23 [some (.ref 0), none] [] h := by
  refine g_aload_n d_44_23 rfl rfl ?_
  refine g_getf (ci := 8) (k := 0) d_44_24 wd_129 (Nat.le_of_ble_eq_true rfl) rfl rfl ?_
  refine g_getf (ci := 6) (k := 5) d_44_27 wd_25 (Nat.le_of_ble_eq_true rfl) rfl rfl ?_
  refine g_aload_n d_44_30 rfl rfl ?_
  refine g_getf (ci := 8) (k := 3) d_44_31 wd_132 (Nat.le_of_ble_eq_true rfl) rfl rfl ?_
  refine g_getf (ci := 4) (k := 2) d_44_34 wd_78 (Nat.le_of_ble_eq_true rfl) rfl rfl ?_
  exact g_callVV (mj := 78) 5 [.ref 23] [] d_44_37 wd_222 mo_78 mc_78 mv_78 rfl rfl rfl (Nat.le_of_ble_eq_true rfl) rfl hdd hC kk

theorem k_44_40 {X : GX} {d : Nat} {h : Hp} (hq : RtX X (some (.int (h 7 5))) h) : G X d 44 40 [some (.ref 0), none] [] h := by
  refine g_aload_n d_44_40 rfl rfl ?_
  refine g_getf (ci := 8) (k := 0) d_44_41 wd_129 (Nat.le_of_ble_eq_true rfl) rfl rfl ?_
  refine g_getf (ci := 6) (k := 5) d_44_44 wd_25 (Nat.le_of_ble_eq_true rfl) rfl rfl ?_
  refine g_getf (ci := 5) (k := 5) d_44_47 wd_13 (Nat.le_of_ble_eq_true rfl) rfl rfl ?_
  exact g_reti d_44_50 rfl hq

/-! 79 PlayedTruth.night()I -/
theorem k_79_0 {X : GX} {d : Nat} {h : Hp} {d' : Nat} {Q' : Int32 → Hp → Prop} (hdd : d' < d) (hC : CI d' 38 [.ref 1, .ref 13] h Q') (kk : ∀ x h', Q' x h' → G X d 79 11 [some (.ref 0)] [.int x] h') : G X d 79 0 [some (.ref 0)] [] h := by
  refine g_aload_n d_79_0 rfl rfl ?_
  refine g_getf (ci := 8) (k := 0) d_79_1 wd_129 (Nat.le_of_ble_eq_true rfl) rfl rfl ?_
  refine g_aload_n d_79_4 rfl rfl ?_
  refine g_getf (ci := 8) (k := 1) d_79_5 wd_130 (Nat.le_of_ble_eq_true rfl) rfl rfl ?_
  exact g_callVI (mj := 38) 6 [.ref 13] [] d_79_8 wd_175 mo_38 mc_38 mv_38 rfl rfl rfl (Nat.le_of_ble_eq_true rfl) rfl hdd hC kk

theorem k_79_11 {X : GX} {d : Nat} {h : Hp} {s0 : Int32} (kt : s0 = 0 → G X d 79 17 [some (.ref 0)] [] h) (kf : ¬ s0 = 0 → G X d 79 14 [none] [] h) : G X d 79 11 [some (.ref 0)] [.int s0] h := by
  exact g_if_eq (tgt := 17) d_79_11 (by decide) kt (fun q => g_mask [false] (kf q))

theorem k_79_14 {X : GX} {d : Nat} {h : Hp} (hq : RtX X (some (.int ((-4)))) h) : G X d 79 14 [none] [] h := by
  refine g_bipush (v := (-4)) d_79_14 (by decide) ?_
  exact g_reti d_79_16 rfl hq

theorem k_79_17 {X : GX} {d : Nat} {h : Hp} {d' : Nat} {Q' : Int32 → Hp → Prop} (hdd : d' < d) (hC : CI d' 80 [.ref 1, .ref 13] h Q') (kk : ∀ x h', Q' x h' → G X d 79 36 [none] [.int x, .ref 13, .ref 1] h') : G X d 79 17 [some (.ref 0)] [] h := by
  refine g_aload_n d_79_17 rfl rfl ?_
  refine g_getf (ci := 8) (k := 0) d_79_18 wd_129 (Nat.le_of_ble_eq_true rfl) rfl rfl ?_
  refine g_aload_n d_79_21 rfl rfl ?_
  refine g_getf (ci := 8) (k := 1) d_79_22 wd_130 (Nat.le_of_ble_eq_true rfl) rfl rfl ?_
  refine g_aload_n d_79_25 rfl rfl ?_
  refine g_getf (ci := 8) (k := 0) d_79_26 wd_129 (Nat.le_of_ble_eq_true rfl) rfl rfl ?_
  refine g_aload_n d_79_29 rfl rfl ?_
  refine g_getf (ci := 8) (k := 1) d_79_30 wd_130 (Nat.le_of_ble_eq_true rfl) rfl rfl ?_
  exact g_callVI (mj := 80) 6 [.ref 13] [.ref 13, .ref 1] d_79_33 wd_225 mo_80 mc_80 mv_80 rfl rfl rfl (Nat.le_of_ble_eq_true rfl) rfl hdd hC (fun x h' q => g_mask [false] (kk x h' q))

theorem k_79_36 {X : GX} {d : Nat} {h : Hp} {s0 : Int32} {s1 : Nat} {s2 : Nat} {d' : Nat} {Q' : Int32 → Hp → Prop} (o0 : sh s2 = (1, 6)) (hdd : d' < d) (hC : CI d' 81 [.ref s2, .ref s1, .int s0] h Q') (kk : ∀ x h', Q' x h' → G X d 79 39 [none] [.int x] h') : G X d 79 36 [none] [.int s0, .ref s1, .ref s2] h := by
  exact g_callVI (mj := 81) 6 [.ref s1, .int s0] [] d_79_36 wd_227 mo_81 mc_81 mv_81 rfl rfl rfl (Nat.le_of_ble_eq_true rfl) o0 hdd hC kk

theorem k_79_39 {X : GX} {d : Nat} {h : Hp} {s0 : Int32} (hq : RtX X (some (.int s0)) h) : G X d 79 39 [none] [.int s0] h := by
  exact g_reti d_79_39 rfl hq

/-! 85 PlayedTruth.on(I)I -/
theorem k_85_0 {X : GX} {d : Nat} {h : Hp} {v1 : Int32} {d' : Nat} {Q' : Int32 → Hp → Prop} (hdd : d' < d) (hC : CI d' 11 [.int v1, .int 0, .int 16] h Q') (kk : ∀ x h', Q' x h' → G X d 85 7 [some (.ref 0), some (.int v1)] [.int x] h') : G X d 85 0 [some (.ref 0), some (.int v1)] [] h := by
  refine g_iload_n d_85_0 rfl rfl ?_
  refine g_iconst (v := 0) d_85_1 (by decide) ?_
  refine g_bipush (v := 16) d_85_2 (by decide) ?_
  exact g_callSI (mj := 11) [.int v1, .int 0, .int 16] [] d_85_4 wd_143 mo_11 mc_11 mv_11 rfl rfl (Nat.le_of_ble_eq_true rfl)  hdd hC kk

theorem k_85_7 {X : GX} {d : Nat} {h : Hp} {v1 : Int32} {s0 : Int32} (kt : s0 = 0 → G X d 85 21 [none, none] [] h) (kf : ¬ s0 = 0 → G X d 85 10 [some (.ref 0), some (.int v1)] [] h) : G X d 85 7 [some (.ref 0), some (.int v1)] [.int s0] h := by
  exact g_if_eq (tgt := 21) d_85_7 (by decide) (fun q => g_mask [false, false] (kt q)) kf

theorem k_85_10 {X : GX} {d : Nat} {h : Hp} {v1 : Int32} {d' : Nat} {Q' : Int32 → Hp → Prop} (hdd : d' < d) (hC : CI d' 86 [.ref 31, .int v1] h Q') (kk : ∀ x h', Q' x h' → G X d 85 18 [none, none] [.int x] h') : G X d 85 10 [some (.ref 0), some (.int v1)] [] h := by
  refine g_aload_n d_85_10 rfl rfl ?_
  refine g_getf (ci := 8) (k := 4) d_85_11 wd_133 (Nat.le_of_ble_eq_true rfl) rfl rfl ?_
  refine g_iload_n d_85_14 rfl rfl ?_
  exact g_callVI (mj := 86) 1 [.int v1] [] d_85_15 wd_234 mo_86 mc_86 mv_86 rfl rfl rfl (Nat.le_of_ble_eq_true rfl) rfl hdd hC (fun x h' q => g_mask [false, false] (kk x h' q))

theorem k_85_18 {X : GX} {d : Nat} {h : Hp} {s0 : Int32} (hq : RtX X (some (.int s0)) h) : G X d 85 18 [none, none] [.int s0] h := by
  refine g_goto (tgt := 22) d_85_18 (by decide) ?_
  exact g_reti d_85_22 rfl hq

theorem k_85_21 {X : GX} {d : Nat} {h : Hp} (hq : RtX X (some (.int ((-1)))) h) : G X d 85 21 [none, none] [] h := by
  refine g_iconst (v := (-1)) d_85_21 (by decide) ?_
  exact g_reti d_85_22 rfl hq

/-! 89 PlayedTruth.when(I)I -/
theorem k_89_0 {X : GX} {d : Nat} {h : Hp} {v1 : Int32} {d' : Nat} {Q' : Int32 → Hp → Prop} (hdd : d' < d) (hC : CI d' 14 [.ref 0, .int v1] h Q') (kk : ∀ x h', Q' x h' → G X d 89 5 [some (.ref 0), some (.int v1)] [.int x] h') : G X d 89 0 [some (.ref 0), some (.int v1)] [] h := by
  refine g_aload_n d_89_0 rfl rfl ?_
  refine g_iload_n d_89_1 rfl rfl ?_
  exact g_callVI (mj := 14) 8 [.int v1] [] d_89_2 wd_146 mo_14 mc_14 mv_14 rfl rfl rfl (Nat.le_of_ble_eq_true rfl) rfl hdd hC kk

theorem k_89_5 {X : GX} {d : Nat} {h : Hp} {v1 : Int32} {s0 : Int32} (kt : s0 = 0 → G X d 89 19 [none, none] [] h) (kf : ¬ s0 = 0 → G X d 89 8 [some (.ref 0), some (.int v1)] [] h) : G X d 89 5 [some (.ref 0), some (.int v1)] [.int s0] h := by
  exact g_if_eq (tgt := 19) d_89_5 (by decide) (fun q => g_mask [false, false] (kt q)) kf

theorem k_89_8 {X : GX} {d : Nat} {h : Hp} {v1 : Int32} {d' : Nat} {Q' : Int32 → Hp → Prop} (hdd : d' < d) (hC : CI d' 90 [.ref 31, .int v1] h Q') (kk : ∀ x h', Q' x h' → G X d 89 16 [none, none] [.int x] h') : G X d 89 8 [some (.ref 0), some (.int v1)] [] h := by
  refine g_aload_n d_89_8 rfl rfl ?_
  refine g_getf (ci := 8) (k := 4) d_89_9 wd_133 (Nat.le_of_ble_eq_true rfl) rfl rfl ?_
  refine g_iload_n d_89_12 rfl rfl ?_
  exact g_callVI (mj := 90) 1 [.int v1] [] d_89_13 wd_242 mo_90 mc_90 mv_90 rfl rfl rfl (Nat.le_of_ble_eq_true rfl) rfl hdd hC (fun x h' q => g_mask [false, false] (kk x h' q))

theorem k_89_16 {X : GX} {d : Nat} {h : Hp} {s0 : Int32} (hq : RtX X (some (.int s0)) h) : G X d 89 16 [none, none] [.int s0] h := by
  refine g_goto (tgt := 20) d_89_16 (by decide) ?_
  exact g_reti d_89_20 rfl hq

theorem k_89_19 {X : GX} {d : Nat} {h : Hp} (hq : RtX X (some (.int ((-1)))) h) : G X d 89 19 [none, none] [] h := by
  refine g_iconst (v := (-1)) d_89_19 (by decide) ?_
  exact g_reti d_89_20 rfl hq

/-! 91 PlayedTruth.prettyFor(I)I -/
theorem k_91_0 {X : GX} {d : Nat} {h : Hp} {v1 : Int32} {d' : Nat} {Q' : Int32 → Hp → Prop} (hdd : d' < d) (hC : CI d' 14 [.ref 0, .int v1] h Q') (kk : ∀ x h', Q' x h' → G X d 91 5 [some (.ref 0), some (.int v1)] [.int x] h') : G X d 91 0 [some (.ref 0), some (.int v1)] [] h := by
  refine g_aload_n d_91_0 rfl rfl ?_
  refine g_iload_n d_91_1 rfl rfl ?_
  exact g_callVI (mj := 14) 8 [.int v1] [] d_91_2 wd_146 mo_14 mc_14 mv_14 rfl rfl rfl (Nat.le_of_ble_eq_true rfl) rfl hdd hC kk

theorem k_91_5 {X : GX} {d : Nat} {h : Hp} {v1 : Int32} {s0 : Int32} (kt : s0 = 0 → G X d 91 25 [none, none] [] h) (kf : ¬ s0 = 0 → G X d 91 8 [some (.ref 0), some (.int v1)] [] h) : G X d 91 5 [some (.ref 0), some (.int v1)] [.int s0] h := by
  exact g_if_eq (tgt := 25) d_91_5 (by decide) (fun q => g_mask [false, false] (kt q)) kf

theorem k_91_8 {X : GX} {d : Nat} {h : Hp} {v1 : Int32} {d' : Nat} {Q' : Int32 → Hp → Prop} (hdd : d' < d) (hC : CI d' 92 [.ref 0, .ref 15, .int v1, .int 9] h Q') (kk : ∀ x h', Q' x h' → G X d 91 22 [none, none] [.int x] h') : G X d 91 8 [some (.ref 0), some (.int v1)] [] h := by
  refine g_aload_n d_91_8 rfl rfl ?_
  refine g_aload_n d_91_9 rfl rfl ?_
  refine g_getf (ci := 8) (k := 1) d_91_10 wd_130 (Nat.le_of_ble_eq_true rfl) rfl rfl ?_
  refine g_getf (ci := 3) (k := 1) d_91_13 wd_38 (Nat.le_of_ble_eq_true rfl) rfl rfl ?_
  refine g_iload_n d_91_16 rfl rfl ?_
  refine g_bipush (v := 9) d_91_17 (by decide) ?_
  exact g_callVI (mj := 92) 8 [.ref 15, .int v1, .int 9] [] d_91_19 wd_245 mo_92 mc_92 mv_92 rfl rfl rfl (Nat.le_of_ble_eq_true rfl) rfl hdd hC (fun x h' q => g_mask [false, false] (kk x h' q))

theorem k_91_22 {X : GX} {d : Nat} {h : Hp} {s0 : Int32} (hq : RtX X (some (.int s0)) h) : G X d 91 22 [none, none] [.int s0] h := by
  refine g_goto (tgt := 26) d_91_22 (by decide) ?_
  exact g_reti d_91_26 rfl hq

theorem k_91_25 {X : GX} {d : Nat} {h : Hp} (hq : RtX X (some (.int ((-1)))) h) : G X d 91 25 [none, none] [] h := by
  refine g_iconst (v := (-1)) d_91_25 (by decide) ?_
  exact g_reti d_91_26 rfl hq

/-! 92 PlayedTruth.bestSetting([III)I -/
theorem k_92_0 {X : GX} {d : Nat} {h : Hp} {v1 : Nat} {v2 : Int32} {v3 : Int32} (b0 : IA v1 v2) (kk : G X d 92 14 [some (.ref 0), some (.ref v1), some (.int v2), some (.int v3), some (.int (h v1 (Int32.toNatClampNeg v2))), some (.int 0), some (.int ((-1))), some (.int 0), none] [] h) : G X d 92 0 [some (.ref 0), some (.ref v1), some (.int v2), some (.int v3), none, none, none, none, none] [] h := by
  refine g_aload_n d_92_0 rfl rfl ?_
  refine g_iload_n d_92_1 rfl rfl ?_
  refine g_iald d_92_2 b0 ?_
  refine g_istore d_92_3 (Nat.le_of_ble_eq_true rfl) rfl ?_
  refine g_iconst (v := 0) d_92_5 (by decide) ?_
  refine g_istore d_92_6 (Nat.le_of_ble_eq_true rfl) rfl ?_
  refine g_iconst (v := (-1)) d_92_8 (by decide) ?_
  refine g_istore d_92_9 (Nat.le_of_ble_eq_true rfl) rfl ?_
  refine g_iconst (v := 0) d_92_11 (by decide) ?_
  refine g_istore d_92_12 (Nat.le_of_ble_eq_true rfl) rfl ?_
  exact kk

theorem k_92_14 {X : GX} {d : Nat} {h : Hp} {v1 : Nat} {v2 : Int32} {v3 : Int32} {v4 : Int32} {v5 : Int32} {v6 : Int32} {v7 : Int32} (kt : v3 < v7 → G X d 92 57 [none, some (.ref v1), some (.int v2), none, some (.int v4), some (.int v5), none, none, none] [] h) (kf : ¬ v3 < v7 → G X d 92 20 [some (.ref 0), some (.ref v1), some (.int v2), some (.int v3), some (.int v4), some (.int v5), some (.int v6), some (.int v7), none] [] h) : G X d 92 14 [some (.ref 0), some (.ref v1), some (.int v2), some (.int v3), some (.int v4), some (.int v5), some (.int v6), some (.int v7), none] [] h := by
  refine g_iload d_92_14 rfl ?_
  refine g_iload_n d_92_16 rfl rfl ?_
  exact g_icmp_gt (tgt := 57) d_92_17 (by decide) (fun q => g_mask [false, true, true, false, true, true, false, false, false] (kt q)) kf

theorem k_92_20 {X : GX} {d : Nat} {h : Hp} {v1 : Nat} {v2 : Int32} {v3 : Int32} {v4 : Int32} {v5 : Int32} {v6 : Int32} {v7 : Int32} {d' : Nat} {Q' : Int32 → Hp → Prop} (b0 : IA v1 v2) (hdd : d' < d) (hC : CI d' 86 [.ref 31, .int 16] (wr h v1 (Int32.toNatClampNeg v2) v7) Q') (kk : ∀ x h', Q' x h' → G X d 92 34 [some (.ref 0), some (.ref v1), some (.int v2), some (.int v3), some (.int v4), some (.int v5), some (.int v6), some (.int v7), none] [.int x] h') : G X d 92 20 [some (.ref 0), some (.ref v1), some (.int v2), some (.int v3), some (.int v4), some (.int v5), some (.int v6), some (.int v7), none] [] h := by
  refine g_aload_n d_92_20 rfl rfl ?_
  refine g_iload_n d_92_21 rfl rfl ?_
  refine g_iload d_92_22 rfl ?_
  refine g_iast d_92_24 b0 ?_
  refine g_aload_n d_92_25 rfl rfl ?_
  refine g_getf (ci := 8) (k := 4) d_92_26 wd_133 (Nat.le_of_ble_eq_true rfl) rfl rfl ?_
  refine g_bipush (v := 16) d_92_29 (by decide) ?_
  exact g_callVI (mj := 86) 1 [.int 16] [] d_92_31 wd_234 mo_86 mc_86 mv_86 rfl rfl rfl (Nat.le_of_ble_eq_true rfl) rfl hdd hC kk

theorem k_92_34 {X : GX} {d : Nat} {h : Hp} {v1 : Nat} {v2 : Int32} {v3 : Int32} {v4 : Int32} {v5 : Int32} {v6 : Int32} {v7 : Int32} {s0 : Int32} (kt : s0 ≤ v6 → G X d 92 51 [some (.ref 0), some (.ref v1), some (.int v2), some (.int v3), some (.int v4), some (.int v5), some (.int v6), some (.int v7), none] [] h) (kf : ¬ s0 ≤ v6 → G X d 92 43 [some (.ref 0), some (.ref v1), some (.int v2), some (.int v3), some (.int v4), none, none, some (.int v7), some (.int s0)] [] h) : G X d 92 34 [some (.ref 0), some (.ref v1), some (.int v2), some (.int v3), some (.int v4), some (.int v5), some (.int v6), some (.int v7), none] [.int s0] h := by
  refine g_istore d_92_34 (Nat.le_of_ble_eq_true rfl) rfl ?_
  refine g_iload d_92_36 rfl ?_
  refine g_iload d_92_38 rfl ?_
  exact g_icmp_le (tgt := 51) d_92_40 (by decide) (fun q => g_mask [true, true, true, true, true, true, true, true, false] (kt q)) (fun q => g_mask [true, true, true, true, true, false, false, true, true] (kf q))

theorem k_92_43 {X : GX} {d : Nat} {h : Hp} {v1 : Nat} {v2 : Int32} {v3 : Int32} {v4 : Int32} {v7 : Int32} {v8 : Int32} (kk : G X d 92 14 [some (.ref 0), some (.ref v1), some (.int v2), some (.int v3), some (.int v4), some (.int v7), some (.int v8), some (.int (v7 + 1)), none] [] h) : G X d 92 43 [some (.ref 0), some (.ref v1), some (.int v2), some (.int v3), some (.int v4), none, none, some (.int v7), some (.int v8)] [] h := by
  refine g_iload d_92_43 rfl ?_
  refine g_istore d_92_45 (Nat.le_of_ble_eq_true rfl) rfl ?_
  refine g_iload d_92_47 rfl ?_
  refine g_istore d_92_49 (Nat.le_of_ble_eq_true rfl) rfl ?_
  refine g_iinc (w := 1) d_92_51 rfl (by decide) (Nat.le_of_ble_eq_true rfl) rfl ?_
  refine g_goto (tgt := 14) d_92_54 (by decide) ?_
  exact g_mask [true, true, true, true, true, true, true, true, false] kk

theorem k_92_51 {X : GX} {d : Nat} {h : Hp} {v1 : Nat} {v2 : Int32} {v3 : Int32} {v4 : Int32} {v5 : Int32} {v6 : Int32} {v7 : Int32} (kk : G X d 92 14 [some (.ref 0), some (.ref v1), some (.int v2), some (.int v3), some (.int v4), some (.int v5), some (.int v6), some (.int (v7 + 1)), none] [] h) : G X d 92 51 [some (.ref 0), some (.ref v1), some (.int v2), some (.int v3), some (.int v4), some (.int v5), some (.int v6), some (.int v7), none] [] h := by
  refine g_iinc (w := 1) d_92_51 rfl (by decide) (Nat.le_of_ble_eq_true rfl) rfl ?_
  refine g_goto (tgt := 14) d_92_54 (by decide) ?_
  exact kk

theorem k_92_57 {X : GX} {d : Nat} {h : Hp} {v1 : Nat} {v2 : Int32} {v4 : Int32} {v5 : Int32} (b0 : IA v1 v2) (hq : RtX X (some (.int v5)) (wr h v1 (Int32.toNatClampNeg v2) v4)) : G X d 92 57 [none, some (.ref v1), some (.int v2), none, some (.int v4), some (.int v5), none, none, none] [] h := by
  refine g_aload_n d_92_57 rfl rfl ?_
  refine g_iload_n d_92_58 rfl rfl ?_
  refine g_iload d_92_59 rfl ?_
  refine g_iast d_92_61 b0 ?_
  refine g_iload d_92_62 rfl ?_
  exact g_reti d_92_64 rfl hq

/-! 93 PlayedTruth.placeFor(I)I -/
theorem k_93_0 {X : GX} {d : Nat} {h : Hp} {v1 : Int32} {d' : Nat} {Q' : Int32 → Hp → Prop} (hdd : d' < d) (hC : CI d' 14 [.ref 0, .int v1] h Q') (kk : ∀ x h', Q' x h' → G X d 93 5 [some (.ref 0), some (.int v1)] [.int x] h') : G X d 93 0 [some (.ref 0), some (.int v1)] [] h := by
  refine g_aload_n d_93_0 rfl rfl ?_
  refine g_iload_n d_93_1 rfl rfl ?_
  exact g_callVI (mj := 14) 8 [.int v1] [] d_93_2 wd_146 mo_14 mc_14 mv_14 rfl rfl rfl (Nat.le_of_ble_eq_true rfl) rfl hdd hC kk

theorem k_93_5 {X : GX} {d : Nat} {h : Hp} {v1 : Int32} {s0 : Int32} (kt : s0 = 0 → G X d 93 24 [none, none] [] h) (kf : ¬ s0 = 0 → G X d 93 8 [some (.ref 0), some (.int v1)] [] h) : G X d 93 5 [some (.ref 0), some (.int v1)] [.int s0] h := by
  exact g_if_eq (tgt := 24) d_93_5 (by decide) (fun q => g_mask [false, false] (kt q)) kf

theorem k_93_8 {X : GX} {d : Nat} {h : Hp} {v1 : Int32} {d' : Nat} {Q' : Int32 → Hp → Prop} (hdd : d' < d) (hC : CI d' 92 [.ref 0, .ref 3, .int v1, .int 5] h Q') (kk : ∀ x h', Q' x h' → G X d 93 21 [none, none] [.int x] h') : G X d 93 8 [some (.ref 0), some (.int v1)] [] h := by
  refine g_aload_n d_93_8 rfl rfl ?_
  refine g_aload_n d_93_9 rfl rfl ?_
  refine g_getf (ci := 8) (k := 0) d_93_10 wd_129 (Nat.le_of_ble_eq_true rfl) rfl rfl ?_
  refine g_getf (ci := 6) (k := 1) d_93_13 wd_17 (Nat.le_of_ble_eq_true rfl) rfl rfl ?_
  refine g_iload_n d_93_16 rfl rfl ?_
  refine g_iconst (v := 5) d_93_17 (by decide) ?_
  exact g_callVI (mj := 92) 8 [.ref 3, .int v1, .int 5] [] d_93_18 wd_245 mo_92 mc_92 mv_92 rfl rfl rfl (Nat.le_of_ble_eq_true rfl) rfl hdd hC (fun x h' q => g_mask [false, false] (kk x h' q))

theorem k_93_21 {X : GX} {d : Nat} {h : Hp} {s0 : Int32} (hq : RtX X (some (.int s0)) h) : G X d 93 21 [none, none] [.int s0] h := by
  refine g_goto (tgt := 25) d_93_21 (by decide) ?_
  exact g_reti d_93_25 rfl hq

theorem k_93_24 {X : GX} {d : Nat} {h : Hp} (hq : RtX X (some (.int ((-1)))) h) : G X d 93 24 [none, none] [] h := by
  refine g_iconst (v := (-1)) d_93_24 (by decide) ?_
  exact g_reti d_93_25 rfl hq

/-! 94 PlayedTruth.truth(I)I -/
theorem k_94_0 {X : GX} {d : Nat} {h : Hp} {v1 : Int32} {d' : Nat} {Q' : Int32 → Hp → Prop} (hdd : d' < d) (hC : CI d' 11 [.int v1, .int 0, .int 594] h Q') (kk : ∀ x h', Q' x h' → G X d 94 8 [some (.ref 0), some (.int v1)] [.int x] h') : G X d 94 0 [some (.ref 0), some (.int v1)] [] h := by
  refine g_iload_n d_94_0 rfl rfl ?_
  refine g_iconst (v := 0) d_94_1 (by decide) ?_
  refine g_sipush (v := 594) d_94_2 (by decide) ?_
  exact g_callSI (mj := 11) [.int v1, .int 0, .int 594] [] d_94_5 wd_143 mo_11 mc_11 mv_11 rfl rfl (Nat.le_of_ble_eq_true rfl)  hdd hC kk

theorem k_94_8 {X : GX} {d : Nat} {h : Hp} {v1 : Int32} {s0 : Int32} (kt : s0 = 0 → G X d 94 22 [none, none] [] h) (kf : ¬ s0 = 0 → G X d 94 11 [some (.ref 0), some (.int v1)] [] h) : G X d 94 8 [some (.ref 0), some (.int v1)] [.int s0] h := by
  exact g_if_eq (tgt := 22) d_94_8 (by decide) (fun q => g_mask [false, false] (kt q)) kf

theorem k_94_11 {X : GX} {d : Nat} {h : Hp} {v1 : Int32} {d' : Nat} {Q' : Int32 → Hp → Prop} (hdd : d' < d) (hC : CI d' 95 [.ref 31, .int v1] h Q') (kk : ∀ x h', Q' x h' → G X d 94 19 [none, none] [.int x] h') : G X d 94 11 [some (.ref 0), some (.int v1)] [] h := by
  refine g_aload_n d_94_11 rfl rfl ?_
  refine g_getf (ci := 8) (k := 4) d_94_12 wd_133 (Nat.le_of_ble_eq_true rfl) rfl rfl ?_
  refine g_iload_n d_94_15 rfl rfl ?_
  exact g_callVI (mj := 95) 1 [.int v1] [] d_94_16 wd_248 mo_95 mc_95 mv_95 rfl rfl rfl (Nat.le_of_ble_eq_true rfl) rfl hdd hC (fun x h' q => g_mask [false, false] (kk x h' q))

theorem k_94_19 {X : GX} {d : Nat} {h : Hp} {s0 : Int32} (hq : RtX X (some (.int s0)) h) : G X d 94 19 [none, none] [.int s0] h := by
  refine g_goto (tgt := 23) d_94_19 (by decide) ?_
  exact g_reti d_94_23 rfl hq

theorem k_94_22 {X : GX} {d : Nat} {h : Hp} (hq : RtX X (some (.int ((-1)))) h) : G X d 94 22 [none, none] [] h := by
  refine g_iconst (v := (-1)) d_94_22 (by decide) ?_
  exact g_reti d_94_23 rfl hq

/-! 96 PlayedTruth.props(I)I -/
theorem k_96_0 {X : GX} {d : Nat} {h : Hp} {v1 : Int32} {d' : Nat} {Q' : Int32 → Hp → Prop} (hdd : d' < d) (hC : CI d' 14 [.ref 0, .int v1] h Q') (kk : ∀ x h', Q' x h' → G X d 96 5 [some (.ref 0), some (.int v1), none, none, none] [.int x] h') : G X d 96 0 [some (.ref 0), some (.int v1), none, none, none] [] h := by
  refine g_aload_n d_96_0 rfl rfl ?_
  refine g_iload_n d_96_1 rfl rfl ?_
  exact g_callVI (mj := 14) 8 [.int v1] [] d_96_2 wd_146 mo_14 mc_14 mv_14 rfl rfl rfl (Nat.le_of_ble_eq_true rfl) rfl hdd hC kk

theorem k_96_5 {X : GX} {d : Nat} {h : Hp} {v1 : Int32} {s0 : Int32} (kt : ¬ s0 = 0 → G X d 96 10 [some (.ref 0), some (.int v1), none, none, none] [] h) (kf : s0 = 0 → G X d 96 8 [none, none, none, none, none] [] h) : G X d 96 5 [some (.ref 0), some (.int v1), none, none, none] [.int s0] h := by
  exact g_if_ne (tgt := 10) d_96_5 (by decide) kt (fun q => g_mask [false, false, false, false, false] (kf q))

theorem k_96_8 {X : GX} {d : Nat} {h : Hp} (hq : RtX X (some (.int ((-1)))) h) : G X d 96 8 [none, none, none, none, none] [] h := by
  refine g_iconst (v := (-1)) d_96_8 (by decide) ?_
  exact g_reti d_96_9 rfl hq

theorem k_96_10 {X : GX} {d : Nat} {h : Hp} {v1 : Int32} (b0 : IA 3 v1) (kk : G X d 96 26 [some (.ref 0), none, some (.int (1 <<< (v1 &&& 31))), some (.int ((h 3 (Int32.toNatClampNeg v1)) - 1)), none] [] h) : G X d 96 10 [some (.ref 0), some (.int v1), none, none, none] [] h := by
  refine g_iconst (v := 1) d_96_10 (by decide) ?_
  refine g_iload_n d_96_11 rfl rfl ?_
  refine g_ishl d_96_12 ?_
  refine g_istore_n d_96_13 rfl (Nat.le_of_ble_eq_true rfl) rfl ?_
  refine g_aload_n d_96_14 rfl rfl ?_
  refine g_getf (ci := 8) (k := 0) d_96_15 wd_129 (Nat.le_of_ble_eq_true rfl) rfl rfl ?_
  refine g_getf (ci := 6) (k := 1) d_96_18 wd_17 (Nat.le_of_ble_eq_true rfl) rfl rfl ?_
  refine g_iload_n d_96_21 rfl rfl ?_
  refine g_iald d_96_22 b0 ?_
  refine g_iconst (v := 1) d_96_23 (by decide) ?_
  refine g_isub d_96_24 ?_
  refine g_istore_n d_96_25 rfl (Nat.le_of_ble_eq_true rfl) rfl ?_
  exact g_mask [true, false, true, true, false] kk

theorem k_96_26 {X : GX} {d : Nat} {h : Hp} {v2 : Int32} {v3 : Int32} (kt : v3 < 0 → G X d 96 59 [none, none, some (.int v2), none, none] [] h) (kf : ¬ v3 < 0 → G X d 96 30 [some (.ref 0), none, some (.int v2), some (.int v3), none] [] h) : G X d 96 26 [some (.ref 0), none, some (.int v2), some (.int v3), none] [] h := by
  refine g_iload_n d_96_26 rfl rfl ?_
  exact g_if_lt (tgt := 59) d_96_27 (by decide) (fun q => g_mask [false, false, true, false, false] (kt q)) kf

theorem k_96_30 {X : GX} {d : Nat} {h : Hp} {v2 : Int32} {v3 : Int32} {d' : Nat} {Q' : Int32 → Hp → Prop} (hdd : d' < d) (hC : CI d' 97 [.ref 1, .int v3] h Q') (kk : ∀ x h', Q' x h' → G X d 96 38 [some (.ref 0), none, some (.int v2), some (.int v3), none] [.int x] h') : G X d 96 30 [some (.ref 0), none, some (.int v2), some (.int v3), none] [] h := by
  refine g_aload_n d_96_30 rfl rfl ?_
  refine g_getf (ci := 8) (k := 0) d_96_31 wd_129 (Nat.le_of_ble_eq_true rfl) rfl rfl ?_
  refine g_iload_n d_96_34 rfl rfl ?_
  exact g_callVI (mj := 97) 6 [.int v3] [] d_96_35 wd_251 mo_97 mc_97 mv_97 rfl rfl rfl (Nat.le_of_ble_eq_true rfl) rfl hdd hC kk

theorem k_96_38 {X : GX} {d : Nat} {h : Hp} {v2 : Int32} {v3 : Int32} {s0 : Int32} (kt : ¬ s0 = 0 → G X d 96 48 [some (.ref 0), none, some (.int v2), some (.int v3), some (.int s0)] [] h) (kf : s0 = 0 → G X d 96 45 [none, none, some (.int v2), none, none] [] h) : G X d 96 38 [some (.ref 0), none, some (.int v2), some (.int v3), none] [.int s0] h := by
  refine g_istore d_96_38 (Nat.le_of_ble_eq_true rfl) rfl ?_
  refine g_iload d_96_40 rfl ?_
  exact g_if_ne (tgt := 48) d_96_42 (by decide) kt (fun q => g_mask [false, false, true, false, false] (kf q))

theorem k_96_45 {X : GX} {d : Nat} {h : Hp} {v2 : Int32} (hq : RtX X (some (.int v2)) h) : G X d 96 45 [none, none, some (.int v2), none, none] [] h := by
  refine g_goto (tgt := 59) d_96_45 (by decide) ?_
  refine g_iload_n d_96_59 rfl rfl ?_
  exact g_reti d_96_60 rfl hq

theorem k_96_48 {X : GX} {d : Nat} {h : Hp} {v2 : Int32} {v3 : Int32} {v4 : Int32} (kk : G X d 96 26 [some (.ref 0), none, some (.int (v2 ||| v4)), some (.int (v3 + (-1))), none] [] h) : G X d 96 48 [some (.ref 0), none, some (.int v2), some (.int v3), some (.int v4)] [] h := by
  refine g_iload_n d_96_48 rfl rfl ?_
  refine g_iload d_96_49 rfl ?_
  refine g_ior d_96_51 ?_
  refine g_istore_n d_96_52 rfl (Nat.le_of_ble_eq_true rfl) rfl ?_
  refine g_iinc (w := (-1)) d_96_53 rfl (by decide) (Nat.le_of_ble_eq_true rfl) rfl ?_
  refine g_goto (tgt := 26) d_96_56 (by decide) ?_
  exact g_mask [true, false, true, true, false] kk

theorem k_96_59 {X : GX} {d : Nat} {h : Hp} {v2 : Int32} (hq : RtX X (some (.int v2)) h) : G X d 96 59 [none, none, some (.int v2), none, none] [] h := by
  refine g_iload_n d_96_59 rfl rfl ?_
  exact g_reti d_96_60 rfl hq

/-! 98 PlayedTruth.strands(I)I -/
theorem k_98_0 {X : GX} {d : Nat} {h : Hp} {v1 : Int32} (kt : ¬ v1 = ((-1)) → G X d 98 10 [some (.ref 0), some (.int v1)] [] h) (kf : v1 = ((-1)) → G X d 98 5 [some (.ref 0), none] [] h) : G X d 98 0 [some (.ref 0), some (.int v1)] [] h := by
  refine g_iload_n d_98_0 rfl rfl ?_
  refine g_iconst (v := (-1)) d_98_1 (by decide) ?_
  exact g_icmp_ne (tgt := 10) d_98_2 (by decide) kt (fun q => g_mask [true, false] (kf q))

theorem k_98_5 {X : GX} {d : Nat} {h : Hp} {d' : Nat} {Q' : Int32 → Hp → Prop} (hdd : d' < d) (hC : CI d' 99 [.ref 0] h Q') (kk : ∀ x h', Q' x h' → G X d 98 9 [none, none] [.int x] h') : G X d 98 5 [some (.ref 0), none] [] h := by
  refine g_aload_n d_98_5 rfl rfl ?_
  exact g_callVI (mj := 99) 8 [] [] d_98_6 wd_253 mo_99 mc_99 mv_99 rfl rfl rfl (Nat.le_of_ble_eq_true rfl) rfl hdd hC (fun x h' q => g_mask [false, false] (kk x h' q))

theorem k_98_9 {X : GX} {d : Nat} {h : Hp} {s0 : Int32} (hq : RtX X (some (.int s0)) h) : G X d 98 9 [none, none] [.int s0] h := by
  exact g_reti d_98_9 rfl hq

theorem k_98_10 {X : GX} {d : Nat} {h : Hp} {v1 : Int32} {d' : Nat} {Q' : Int32 → Hp → Prop} (hdd : d' < d) (hC : CI d' 14 [.ref 0, .int v1] h Q') (kk : ∀ x h', Q' x h' → G X d 98 15 [some (.ref 0), some (.int v1)] [.int x] h') : G X d 98 10 [some (.ref 0), some (.int v1)] [] h := by
  refine g_aload_n d_98_10 rfl rfl ?_
  refine g_iload_n d_98_11 rfl rfl ?_
  exact g_callVI (mj := 14) 8 [.int v1] [] d_98_12 wd_146 mo_14 mc_14 mv_14 rfl rfl rfl (Nat.le_of_ble_eq_true rfl) rfl hdd hC kk

theorem k_98_15 {X : GX} {d : Nat} {h : Hp} {v1 : Int32} {s0 : Int32} (kt : s0 = 0 → G X d 98 26 [none, none] [] h) (kf : ¬ s0 = 0 → G X d 98 18 [some (.ref 0), some (.int v1)] [] h) : G X d 98 15 [some (.ref 0), some (.int v1)] [.int s0] h := by
  exact g_if_eq (tgt := 26) d_98_15 (by decide) (fun q => g_mask [false, false] (kt q)) kf

theorem k_98_18 {X : GX} {d : Nat} {h : Hp} {v1 : Int32} {d' : Nat} {Q' : Int32 → Hp → Prop} (hdd : d' < d) (hC : CI d' 100 [.ref 0, .int v1] h Q') (kk : ∀ x h', Q' x h' → G X d 98 23 [none, none] [.int x] h') : G X d 98 18 [some (.ref 0), some (.int v1)] [] h := by
  refine g_aload_n d_98_18 rfl rfl ?_
  refine g_iload_n d_98_19 rfl rfl ?_
  exact g_callVI (mj := 100) 8 [.int v1] [] d_98_20 wd_254 mo_100 mc_100 mv_100 rfl rfl rfl (Nat.le_of_ble_eq_true rfl) rfl hdd hC (fun x h' q => g_mask [false, false] (kk x h' q))

theorem k_98_23 {X : GX} {d : Nat} {h : Hp} {s0 : Int32} (hq : RtX X (some (.int s0)) h) : G X d 98 23 [none, none] [.int s0] h := by
  refine g_goto (tgt := 27) d_98_23 (by decide) ?_
  exact g_reti d_98_27 rfl hq

theorem k_98_26 {X : GX} {d : Nat} {h : Hp} (hq : RtX X (some (.int ((-1)))) h) : G X d 98 26 [none, none] [] h := by
  refine g_iconst (v := (-1)) d_98_26 (by decide) ?_
  exact g_reti d_98_27 rfl hq

/-! 99 PlayedTruth.countStrands()I -/
theorem k_99_0 {X : GX} {d : Nat} {h : Hp} (kk : G X d 99 12 [some (.ref 0), some (.int 0), some (.int (h 13 2)), some (.int 0)] [] h) : G X d 99 0 [some (.ref 0), none, none, none] [] h := by
  refine g_iconst (v := 0) d_99_0 (by decide) ?_
  refine g_istore_n d_99_1 rfl (Nat.le_of_ble_eq_true rfl) rfl ?_
  refine g_aload_n d_99_2 rfl rfl ?_
  refine g_getf (ci := 8) (k := 1) d_99_3 wd_130 (Nat.le_of_ble_eq_true rfl) rfl rfl ?_
  refine g_getf (ci := 3) (k := 2) d_99_6 wd_41 (Nat.le_of_ble_eq_true rfl) rfl rfl ?_
  refine g_istore_n d_99_9 rfl (Nat.le_of_ble_eq_true rfl) rfl ?_
  refine g_iconst (v := 0) d_99_10 (by decide) ?_
  refine g_istore_n d_99_11 rfl (Nat.le_of_ble_eq_true rfl) rfl ?_
  exact kk

theorem k_99_12 {X : GX} {d : Nat} {h : Hp} {v1 : Int32} {v2 : Int32} {v3 : Int32} (kt : (h 1 7) ≤ v3 → G X d 99 52 [none, some (.int v1), none, none] [] h) (kf : ¬ (h 1 7) ≤ v3 → G X d 99 23 [some (.ref 0), some (.int v1), some (.int v2), some (.int v3)] [] h) : G X d 99 12 [some (.ref 0), some (.int v1), some (.int v2), some (.int v3)] [] h := by
  refine g_iload_n d_99_12 rfl rfl ?_
  refine g_aload_n d_99_13 rfl rfl ?_
  refine g_getf (ci := 8) (k := 0) d_99_14 wd_129 (Nat.le_of_ble_eq_true rfl) rfl rfl ?_
  refine g_getf (ci := 6) (k := 7) d_99_17 wd_28 (Nat.le_of_ble_eq_true rfl) rfl rfl ?_
  exact g_icmp_ge (tgt := 52) d_99_20 (by decide) (fun q => g_mask [false, true, false, false] (kt q)) kf

theorem k_99_23 {X : GX} {d : Nat} {h : Hp} {v1 : Int32} {v2 : Int32} {v3 : Int32} (kt : ¬ ((v2 >>> (v3 &&& 31)) &&& 1) = 1 → G X d 99 35 [some (.ref 0), some (.int v1), some (.int v2), some (.int v3)] [] h) (kf : ((v2 >>> (v3 &&& 31)) &&& 1) = 1 → G X d 99 32 [some (.ref 0), some (.int v1), some (.int v2), some (.int v3)] [] h) : G X d 99 23 [some (.ref 0), some (.int v1), some (.int v2), some (.int v3)] [] h := by
  refine g_iload_n d_99_23 rfl rfl ?_
  refine g_iload_n d_99_24 rfl rfl ?_
  refine g_ishr d_99_25 ?_
  refine g_iconst (v := 1) d_99_26 (by decide) ?_
  refine g_iand d_99_27 ?_
  refine g_iconst (v := 1) d_99_28 (by decide) ?_
  exact g_icmp_ne (tgt := 35) d_99_29 (by decide) kt kf

theorem k_99_32 {X : GX} {d : Nat} {h : Hp} {v1 : Int32} {v2 : Int32} {v3 : Int32} (kk : G X d 99 12 [some (.ref 0), some (.int v1), some (.int v2), some (.int (v3 + 1))] [] h) : G X d 99 32 [some (.ref 0), some (.int v1), some (.int v2), some (.int v3)] [] h := by
  refine g_goto (tgt := 46) d_99_32 (by decide) ?_
  refine g_iinc (w := 1) d_99_46 rfl (by decide) (Nat.le_of_ble_eq_true rfl) rfl ?_
  refine g_goto (tgt := 12) d_99_49 (by decide) ?_
  exact kk

theorem k_99_35 {X : GX} {d : Nat} {h : Hp} {v1 : Int32} {v2 : Int32} {v3 : Int32} {d' : Nat} {Q' : Int32 → Hp → Prop} (hdd : d' < d) (hC : CI d' 100 [.ref 0, .int v3] h Q') (kk : ∀ x h', Q' x h' → G X d 99 41 [some (.ref 0), some (.int v1), none, some (.int v3)] [.int x, .int v2] h') : G X d 99 35 [some (.ref 0), some (.int v1), some (.int v2), some (.int v3)] [] h := by
  refine g_iload_n d_99_35 rfl rfl ?_
  refine g_aload_n d_99_36 rfl rfl ?_
  refine g_iload_n d_99_37 rfl rfl ?_
  exact g_callVI (mj := 100) 8 [.int v3] [.int v2] d_99_38 wd_254 mo_100 mc_100 mv_100 rfl rfl rfl (Nat.le_of_ble_eq_true rfl) rfl hdd hC (fun x h' q => g_mask [true, true, false, true] (kk x h' q))

theorem k_99_41 {X : GX} {d : Nat} {h : Hp} {v1 : Int32} {v3 : Int32} {s0 : Int32} {s1 : Int32} (kk : G X d 99 12 [some (.ref 0), some (.int (v1 + 1)), some (.int (s1 ||| s0)), some (.int (v3 + 1))] [] h) : G X d 99 41 [some (.ref 0), some (.int v1), none, some (.int v3)] [.int s0, .int s1] h := by
  refine g_ior d_99_41 ?_
  refine g_istore_n d_99_42 rfl (Nat.le_of_ble_eq_true rfl) rfl ?_
  refine g_iinc (w := 1) d_99_43 rfl (by decide) (Nat.le_of_ble_eq_true rfl) rfl ?_
  refine g_iinc (w := 1) d_99_46 rfl (by decide) (Nat.le_of_ble_eq_true rfl) rfl ?_
  refine g_goto (tgt := 12) d_99_49 (by decide) ?_
  exact kk

theorem k_99_52 {X : GX} {d : Nat} {h : Hp} {v1 : Int32} (hq : RtX X (some (.int v1)) h) : G X d 99 52 [none, some (.int v1), none, none] [] h := by
  refine g_iload_n d_99_52 rfl rfl ?_
  exact g_reti d_99_53 rfl hq

/-! 100 PlayedTruth.strandOf(I)I -/
theorem k_100_0 {X : GX} {d : Nat} {h : Hp} {v1 : Int32} {d' : Nat} {Q' : Int32 → Hp → Prop} (hdd : d' < d) (hC : CI d' 15 [.ref 13, .int v1] h Q') (kk : ∀ x h', Q' x h' → G X d 100 8 [some (.ref 0), some (.int v1), none, none] [.int x] h') : G X d 100 0 [some (.ref 0), some (.int v1), none, none] [] h := by
  refine g_aload_n d_100_0 rfl rfl ?_
  refine g_getf (ci := 8) (k := 1) d_100_1 wd_130 (Nat.le_of_ble_eq_true rfl) rfl rfl ?_
  refine g_iload_n d_100_4 rfl rfl ?_
  exact g_callVI (mj := 15) 3 [.int v1] [] d_100_5 wd_147 mo_15 mc_15 mv_15 rfl rfl rfl (Nat.le_of_ble_eq_true rfl) rfl hdd hC kk

theorem k_100_8 {X : GX} {d : Nat} {h : Hp} {v1 : Int32} {s0 : Int32} (kt : s0 = 0 → G X d 100 13 [some (.ref 0), some (.int v1), none, none] [] h) (kf : ¬ s0 = 0 → G X d 100 11 [none, none, none, none] [] h) : G X d 100 8 [some (.ref 0), some (.int v1), none, none] [.int s0] h := by
  exact g_if_eq (tgt := 13) d_100_8 (by decide) kt (fun q => g_mask [false, false, false, false] (kf q))

theorem k_100_11 {X : GX} {d : Nat} {h : Hp} (hq : RtX X (some (.int 0)) h) : G X d 100 11 [none, none, none, none] [] h := by
  refine g_iconst (v := 0) d_100_11 (by decide) ?_
  exact g_reti d_100_12 rfl hq

theorem k_100_13 {X : GX} {d : Nat} {h : Hp} {v1 : Int32} (kk : G X d 100 19 [some (.ref 0), none, some (.int (1 <<< (v1 &&& 31))), some (.int 1)] [] h) : G X d 100 13 [some (.ref 0), some (.int v1), none, none] [] h := by
  refine g_iconst (v := 1) d_100_13 (by decide) ?_
  refine g_iload_n d_100_14 rfl rfl ?_
  refine g_ishl d_100_15 ?_
  refine g_istore_n d_100_16 rfl (Nat.le_of_ble_eq_true rfl) rfl ?_
  refine g_iconst (v := 1) d_100_17 (by decide) ?_
  refine g_istore_n d_100_18 rfl (Nat.le_of_ble_eq_true rfl) rfl ?_
  exact g_mask [true, false, true, true] kk

theorem k_100_19 {X : GX} {d : Nat} {h : Hp} {v2 : Int32} {v3 : Int32} (kt : (h 1 7) ≤ v3 → G X d 100 44 [none, none, some (.int v2), none] [] h) (kf : ¬ (h 1 7) ≤ v3 → G X d 100 30 [some (.ref 0), none, some (.int v2), some (.int v3)] [] h) : G X d 100 19 [some (.ref 0), none, some (.int v2), some (.int v3)] [] h := by
  refine g_iload_n d_100_19 rfl rfl ?_
  refine g_aload_n d_100_20 rfl rfl ?_
  refine g_getf (ci := 8) (k := 0) d_100_21 wd_129 (Nat.le_of_ble_eq_true rfl) rfl rfl ?_
  refine g_getf (ci := 6) (k := 7) d_100_24 wd_28 (Nat.le_of_ble_eq_true rfl) rfl rfl ?_
  exact g_icmp_ge (tgt := 44) d_100_27 (by decide) (fun q => g_mask [false, false, true, false] (kt q)) kf

theorem k_100_30 {X : GX} {d : Nat} {h : Hp} {v2 : Int32} {v3 : Int32} {d' : Nat} {Q' : Int32 → Hp → Prop} (hdd : d' < d) (hC : CI d' 101 [.ref 0, .int v2] h Q') (kk : ∀ x h', Q' x h' → G X d 100 36 [some (.ref 0), none, none, some (.int v3)] [.int x, .int v2] h') : G X d 100 30 [some (.ref 0), none, some (.int v2), some (.int v3)] [] h := by
  refine g_iload_n d_100_30 rfl rfl ?_
  refine g_aload_n d_100_31 rfl rfl ?_
  refine g_iload_n d_100_32 rfl rfl ?_
  exact g_callVI (mj := 101) 8 [.int v2] [.int v2] d_100_33 wd_255 mo_101 mc_101 mv_101 rfl rfl rfl (Nat.le_of_ble_eq_true rfl) rfl hdd hC (fun x h' q => g_mask [true, false, false, true] (kk x h' q))

theorem k_100_36 {X : GX} {d : Nat} {h : Hp} {v3 : Int32} {s0 : Int32} {s1 : Int32} (kk : G X d 100 19 [some (.ref 0), none, some (.int (s1 ||| s0)), some (.int (v3 + 1))] [] h) : G X d 100 36 [some (.ref 0), none, none, some (.int v3)] [.int s0, .int s1] h := by
  refine g_ior d_100_36 ?_
  refine g_istore_n d_100_37 rfl (Nat.le_of_ble_eq_true rfl) rfl ?_
  refine g_iinc (w := 1) d_100_38 rfl (by decide) (Nat.le_of_ble_eq_true rfl) rfl ?_
  refine g_goto (tgt := 19) d_100_41 (by decide) ?_
  exact kk

theorem k_100_44 {X : GX} {d : Nat} {h : Hp} {v2 : Int32} (hq : RtX X (some (.int v2)) h) : G X d 100 44 [none, none, some (.int v2), none] [] h := by
  refine g_iload_n d_100_44 rfl rfl ?_
  exact g_reti d_100_45 rfl hq

/-! 101 PlayedTruth.closeToAny(I)I -/
theorem k_101_0 {X : GX} {d : Nat} {h : Hp} {v1 : Int32} (kk : G X d 101 4 [some (.ref 0), some (.int v1), some (.int 0), some (.int 0), none] [] h) : G X d 101 0 [some (.ref 0), some (.int v1), none, none, none] [] h := by
  refine g_iconst (v := 0) d_101_0 (by decide) ?_
  refine g_istore_n d_101_1 rfl (Nat.le_of_ble_eq_true rfl) rfl ?_
  refine g_iconst (v := 0) d_101_2 (by decide) ?_
  refine g_istore_n d_101_3 rfl (Nat.le_of_ble_eq_true rfl) rfl ?_
  exact kk

theorem k_101_4 {X : GX} {d : Nat} {h : Hp} {v1 : Int32} {v2 : Int32} {v3 : Int32} (kt : (h 1 7) ≤ v3 → G X d 101 77 [none, none, some (.int v2), none, none] [] h) (kf : ¬ (h 1 7) ≤ v3 → G X d 101 15 [some (.ref 0), some (.int v1), some (.int v2), some (.int v3), none] [] h) : G X d 101 4 [some (.ref 0), some (.int v1), some (.int v2), some (.int v3), none] [] h := by
  refine g_iload_n d_101_4 rfl rfl ?_
  refine g_aload_n d_101_5 rfl rfl ?_
  refine g_getf (ci := 8) (k := 0) d_101_6 wd_129 (Nat.le_of_ble_eq_true rfl) rfl rfl ?_
  refine g_getf (ci := 6) (k := 7) d_101_9 wd_28 (Nat.le_of_ble_eq_true rfl) rfl rfl ?_
  exact g_icmp_ge (tgt := 77) d_101_12 (by decide) (fun q => g_mask [false, false, true, false, false] (kt q)) kf

theorem k_101_15 {X : GX} {d : Nat} {h : Hp} {v1 : Int32} {v2 : Int32} {v3 : Int32} (kt : ¬ ((v1 >>> (v3 &&& 31)) &&& 1) = 0 → G X d 101 26 [some (.ref 0), some (.int v1), some (.int v2), some (.int v3), none] [] h) (kf : ((v1 >>> (v3 &&& 31)) &&& 1) = 0 → G X d 101 23 [some (.ref 0), some (.int v1), some (.int v2), some (.int v3), none] [] h) : G X d 101 15 [some (.ref 0), some (.int v1), some (.int v2), some (.int v3), none] [] h := by
  refine g_iload_n d_101_15 rfl rfl ?_
  refine g_iload_n d_101_16 rfl rfl ?_
  refine g_ishr d_101_17 ?_
  refine g_iconst (v := 1) d_101_18 (by decide) ?_
  refine g_iand d_101_19 ?_
  exact g_if_ne (tgt := 26) d_101_20 (by decide) kt kf

theorem k_101_23 {X : GX} {d : Nat} {h : Hp} {v1 : Int32} {v2 : Int32} {v3 : Int32} (kk : G X d 101 4 [some (.ref 0), some (.int v1), some (.int v2), some (.int (v3 + 1)), none] [] h) : G X d 101 23 [some (.ref 0), some (.int v1), some (.int v2), some (.int v3), none] [] h := by
  refine g_goto (tgt := 71) d_101_23 (by decide) ?_
  refine g_iinc (w := 1) d_101_71 rfl (by decide) (Nat.le_of_ble_eq_true rfl) rfl ?_
  refine g_goto (tgt := 4) d_101_74 (by decide) ?_
  exact kk

theorem k_101_26 {X : GX} {d : Nat} {h : Hp} {v1 : Int32} {v2 : Int32} {v3 : Int32} (kk : G X d 101 29 [some (.ref 0), some (.int v1), some (.int v2), some (.int v3), some (.int 0)] [] h) : G X d 101 26 [some (.ref 0), some (.int v1), some (.int v2), some (.int v3), none] [] h := by
  refine g_iconst (v := 0) d_101_26 (by decide) ?_
  refine g_istore d_101_27 (Nat.le_of_ble_eq_true rfl) rfl ?_
  exact kk

theorem k_101_29 {X : GX} {d : Nat} {h : Hp} {v1 : Int32} {v2 : Int32} {v3 : Int32} {v4 : Int32} (kt : (h 1 7) ≤ v4 → G X d 101 71 [some (.ref 0), some (.int v1), some (.int v2), some (.int v3), none] [] h) (kf : ¬ (h 1 7) ≤ v4 → G X d 101 41 [some (.ref 0), some (.int v1), some (.int v2), some (.int v3), some (.int v4)] [] h) : G X d 101 29 [some (.ref 0), some (.int v1), some (.int v2), some (.int v3), some (.int v4)] [] h := by
  refine g_iload d_101_29 rfl ?_
  refine g_aload_n d_101_31 rfl rfl ?_
  refine g_getf (ci := 8) (k := 0) d_101_32 wd_129 (Nat.le_of_ble_eq_true rfl) rfl rfl ?_
  refine g_getf (ci := 6) (k := 7) d_101_35 wd_28 (Nat.le_of_ble_eq_true rfl) rfl rfl ?_
  exact g_icmp_ge (tgt := 71) d_101_38 (by decide) (fun q => g_mask [true, true, true, true, false] (kt q)) kf

theorem k_101_41 {X : GX} {d : Nat} {h : Hp} {v1 : Int32} {v2 : Int32} {v3 : Int32} {v4 : Int32} {d' : Nat} {Q' : Int32 → Hp → Prop} (hdd : d' < d) (hC : CI d' 102 [.ref 1, .ref 13, .int v3, .int v4] h Q') (kk : ∀ x h', Q' x h' → G X d 101 55 [some (.ref 0), some (.int v1), some (.int v2), some (.int v3), some (.int v4)] [.int x] h') : G X d 101 41 [some (.ref 0), some (.int v1), some (.int v2), some (.int v3), some (.int v4)] [] h := by
  refine g_aload_n d_101_41 rfl rfl ?_
  refine g_getf (ci := 8) (k := 0) d_101_42 wd_129 (Nat.le_of_ble_eq_true rfl) rfl rfl ?_
  refine g_aload_n d_101_45 rfl rfl ?_
  refine g_getf (ci := 8) (k := 1) d_101_46 wd_130 (Nat.le_of_ble_eq_true rfl) rfl rfl ?_
  refine g_iload_n d_101_49 rfl rfl ?_
  refine g_iload d_101_50 rfl ?_
  exact g_callVI (mj := 102) 6 [.ref 13, .int v3, .int v4] [] d_101_52 wd_256 mo_102 mc_102 mv_102 rfl rfl rfl (Nat.le_of_ble_eq_true rfl) rfl hdd hC kk

theorem k_101_55 {X : GX} {d : Nat} {h : Hp} {v1 : Int32} {v2 : Int32} {v3 : Int32} {v4 : Int32} {s0 : Int32} (kt : s0 = 0 → G X d 101 65 [some (.ref 0), some (.int v1), some (.int v2), some (.int v3), some (.int v4)] [] h) (kf : ¬ s0 = 0 → G X d 101 58 [some (.ref 0), some (.int v1), some (.int v2), some (.int v3), some (.int v4)] [] h) : G X d 101 55 [some (.ref 0), some (.int v1), some (.int v2), some (.int v3), some (.int v4)] [.int s0] h := by
  exact g_if_eq (tgt := 65) d_101_55 (by decide) kt kf

theorem k_101_58 {X : GX} {d : Nat} {h : Hp} {v1 : Int32} {v2 : Int32} {v3 : Int32} {v4 : Int32} (kk : G X d 101 29 [some (.ref 0), some (.int v1), some (.int (v2 ||| (1 <<< (v4 &&& 31)))), some (.int v3), some (.int (v4 + 1))] [] h) : G X d 101 58 [some (.ref 0), some (.int v1), some (.int v2), some (.int v3), some (.int v4)] [] h := by
  refine g_iload_n d_101_58 rfl rfl ?_
  refine g_iconst (v := 1) d_101_59 (by decide) ?_
  refine g_iload d_101_60 rfl ?_
  refine g_ishl d_101_62 ?_
  refine g_ior d_101_63 ?_
  refine g_istore_n d_101_64 rfl (Nat.le_of_ble_eq_true rfl) rfl ?_
  refine g_iinc (w := 1) d_101_65 rfl (by decide) (Nat.le_of_ble_eq_true rfl) rfl ?_
  refine g_goto (tgt := 29) d_101_68 (by decide) ?_
  exact kk

theorem k_101_65 {X : GX} {d : Nat} {h : Hp} {v1 : Int32} {v2 : Int32} {v3 : Int32} {v4 : Int32} (kk : G X d 101 29 [some (.ref 0), some (.int v1), some (.int v2), some (.int v3), some (.int (v4 + 1))] [] h) : G X d 101 65 [some (.ref 0), some (.int v1), some (.int v2), some (.int v3), some (.int v4)] [] h := by
  refine g_iinc (w := 1) d_101_65 rfl (by decide) (Nat.le_of_ble_eq_true rfl) rfl ?_
  refine g_goto (tgt := 29) d_101_68 (by decide) ?_
  exact kk

theorem k_101_71 {X : GX} {d : Nat} {h : Hp} {v1 : Int32} {v2 : Int32} {v3 : Int32} (kk : G X d 101 4 [some (.ref 0), some (.int v1), some (.int v2), some (.int (v3 + 1)), none] [] h) : G X d 101 71 [some (.ref 0), some (.int v1), some (.int v2), some (.int v3), none] [] h := by
  refine g_iinc (w := 1) d_101_71 rfl (by decide) (Nat.le_of_ble_eq_true rfl) rfl ?_
  refine g_goto (tgt := 4) d_101_74 (by decide) ?_
  exact kk

theorem k_101_77 {X : GX} {d : Nat} {h : Hp} {v2 : Int32} (hq : RtX X (some (.int v2)) h) : G X d 101 77 [none, none, some (.int v2), none, none] [] h := by
  refine g_iload_n d_101_77 rfl rfl ?_
  exact g_reti d_101_78 rfl hq

/-! 104 PlayedTruth.billing(I)I -/
theorem k_104_0 {X : GX} {d : Nat} {h : Hp} {v1 : Int32} {d' : Nat} {Q' : Int32 → Hp → Prop} (hdd : d' < d) (hC : CI d' 11 [.int v1, .int 0, .int 999] h Q') (kk : ∀ x h', Q' x h' → G X d 104 8 [some (.ref 0), some (.int v1), none, none, none, none] [.int x] h') : G X d 104 0 [some (.ref 0), some (.int v1), none, none, none, none] [] h := by
  refine g_iload_n d_104_0 rfl rfl ?_
  refine g_iconst (v := 0) d_104_1 (by decide) ?_
  refine g_sipush (v := 999) d_104_2 (by decide) ?_
  exact g_callSI (mj := 11) [.int v1, .int 0, .int 999] [] d_104_5 wd_143 mo_11 mc_11 mv_11 rfl rfl (Nat.le_of_ble_eq_true rfl)  hdd hC kk

theorem k_104_8 {X : GX} {d : Nat} {h : Hp} {v1 : Int32} {s0 : Int32} (kt : ¬ s0 = 0 → G X d 104 13 [some (.ref 0), some (.int v1), none, none, none, none] [] h) (kf : s0 = 0 → G X d 104 11 [none, none, none, none, none, none] [] h) : G X d 104 8 [some (.ref 0), some (.int v1), none, none, none, none] [.int s0] h := by
  exact g_if_ne (tgt := 13) d_104_8 (by decide) kt (fun q => g_mask [false, false, false, false, false, false] (kf q))

theorem k_104_11 {X : GX} {d : Nat} {h : Hp} (hq : RtX X (some (.int ((-1)))) h) : G X d 104 11 [none, none, none, none, none, none] [] h := by
  refine g_iconst (v := (-1)) d_104_11 (by decide) ?_
  exact g_reti d_104_12 rfl hq

theorem k_104_13 {X : GX} {d : Nat} {h : Hp} {v1 : Int32} (kk : G X d 104 22 [some (.ref 0), some (.int v1), some (.int ((-3))), some (.int 7), some (.int 0), none] [] h) : G X d 104 13 [some (.ref 0), some (.int v1), none, none, none, none] [] h := by
  refine g_bipush (v := (-3)) d_104_13 (by decide) ?_
  refine g_istore_n d_104_15 rfl (Nat.le_of_ble_eq_true rfl) rfl ?_
  refine g_bipush (v := 7) d_104_16 (by decide) ?_
  refine g_istore_n d_104_18 rfl (Nat.le_of_ble_eq_true rfl) rfl ?_
  refine g_iconst (v := 0) d_104_19 (by decide) ?_
  refine g_istore d_104_20 (Nat.le_of_ble_eq_true rfl) rfl ?_
  exact kk

theorem k_104_22 {X : GX} {d : Nat} {h : Hp} {v1 : Int32} {v2 : Int32} {v3 : Int32} {v4 : Int32} (kt : (1 <<< ((h 1 7) &&& 31)) ≤ v4 → G X d 104 78 [none, none, some (.int v2), none, none, none] [] h) (kf : ¬ (1 <<< ((h 1 7) &&& 31)) ≤ v4 → G X d 104 36 [some (.ref 0), some (.int v1), some (.int v2), some (.int v3), some (.int v4), none] [] h) : G X d 104 22 [some (.ref 0), some (.int v1), some (.int v2), some (.int v3), some (.int v4), none] [] h := by
  refine g_iload d_104_22 rfl ?_
  refine g_iconst (v := 1) d_104_24 (by decide) ?_
  refine g_aload_n d_104_25 rfl rfl ?_
  refine g_getf (ci := 8) (k := 0) d_104_26 wd_129 (Nat.le_of_ble_eq_true rfl) rfl rfl ?_
  refine g_getf (ci := 6) (k := 7) d_104_29 wd_28 (Nat.le_of_ble_eq_true rfl) rfl rfl ?_
  refine g_ishl d_104_32 ?_
  exact g_icmp_ge (tgt := 78) d_104_33 (by decide) (fun q => g_mask [false, false, true, false, false, false] (kt q)) kf

theorem k_104_36 {X : GX} {d : Nat} {h : Hp} {v1 : Int32} {v2 : Int32} {v3 : Int32} {v4 : Int32} {d' : Nat} {Q' : Int32 → Hp → Prop} (hdd : d' < d) (hC : CI d' 105 [.int v4] h Q') (kk : ∀ x h', Q' x h' → G X d 104 41 [some (.ref 0), some (.int v1), some (.int v2), some (.int v3), some (.int v4), none] [.int x] h') : G X d 104 36 [some (.ref 0), some (.int v1), some (.int v2), some (.int v3), some (.int v4), none] [] h := by
  refine g_iload d_104_36 rfl ?_
  exact g_callSI (mj := 105) [.int v4] [] d_104_38 wd_259 mo_105 mc_105 mv_105 rfl rfl (Nat.le_of_ble_eq_true rfl)  hdd hC kk

theorem k_104_41 {X : GX} {d : Nat} {h : Hp} {v1 : Int32} {v2 : Int32} {v3 : Int32} {v4 : Int32} {s0 : Int32} (kt : v3 ≤ s0 → G X d 104 72 [some (.ref 0), some (.int v1), some (.int v2), some (.int v3), some (.int v4), none] [] h) (kf : ¬ v3 ≤ s0 → G X d 104 49 [some (.ref 0), some (.int v1), some (.int v2), some (.int v3), some (.int v4), some (.int s0)] [] h) : G X d 104 41 [some (.ref 0), some (.int v1), some (.int v2), some (.int v3), some (.int v4), none] [.int s0] h := by
  refine g_istore d_104_41 (Nat.le_of_ble_eq_true rfl) rfl ?_
  refine g_iload d_104_43 rfl ?_
  refine g_iload_n d_104_45 rfl rfl ?_
  exact g_icmp_ge (tgt := 72) d_104_46 (by decide) (fun q => g_mask [true, true, true, true, true, false] (kt q)) kf

theorem k_104_49 {X : GX} {d : Nat} {h : Hp} {v1 : Int32} {v2 : Int32} {v3 : Int32} {v4 : Int32} {v5 : Int32} {d' : Nat} {Q' : Int32 → Hp → Prop} (hdd : d' < d) (hC : CI d' 106 [.ref 1, .ref 13, .int v4] h Q') (kk : ∀ x h', Q' x h' → G X d 104 62 [some (.ref 0), some (.int v1), some (.int v2), some (.int v3), some (.int v4), some (.int v5)] [.int x] h') : G X d 104 49 [some (.ref 0), some (.int v1), some (.int v2), some (.int v3), some (.int v4), some (.int v5)] [] h := by
  refine g_aload_n d_104_49 rfl rfl ?_
  refine g_getf (ci := 8) (k := 0) d_104_50 wd_129 (Nat.le_of_ble_eq_true rfl) rfl rfl ?_
  refine g_aload_n d_104_53 rfl rfl ?_
  refine g_getf (ci := 8) (k := 1) d_104_54 wd_130 (Nat.le_of_ble_eq_true rfl) rfl rfl ?_
  refine g_iload d_104_57 rfl ?_
  exact g_callVI (mj := 106) 6 [.ref 13, .int v4] [] d_104_59 wd_263 mo_106 mc_106 mv_106 rfl rfl rfl (Nat.le_of_ble_eq_true rfl) rfl hdd hC kk

theorem k_104_62 {X : GX} {d : Nat} {h : Hp} {v1 : Int32} {v2 : Int32} {v3 : Int32} {v4 : Int32} {v5 : Int32} {s0 : Int32} (kt : s0 < v1 → G X d 104 72 [some (.ref 0), some (.int v1), some (.int v2), some (.int v3), some (.int v4), none] [] h) (kf : ¬ s0 < v1 → G X d 104 66 [some (.ref 0), some (.int v1), none, none, some (.int v4), some (.int v5)] [] h) : G X d 104 62 [some (.ref 0), some (.int v1), some (.int v2), some (.int v3), some (.int v4), some (.int v5)] [.int s0] h := by
  refine g_iload_n d_104_62 rfl rfl ?_
  exact g_icmp_lt (tgt := 72) d_104_63 (by decide) (fun q => g_mask [true, true, true, true, true, false] (kt q)) (fun q => g_mask [true, true, false, false, true, true] (kf q))

theorem k_104_66 {X : GX} {d : Nat} {h : Hp} {v1 : Int32} {v4 : Int32} {v5 : Int32} (kk : G X d 104 22 [some (.ref 0), some (.int v1), some (.int v4), some (.int v5), some (.int (v4 + 1)), none] [] h) : G X d 104 66 [some (.ref 0), some (.int v1), none, none, some (.int v4), some (.int v5)] [] h := by
  refine g_iload d_104_66 rfl ?_
  refine g_istore_n d_104_68 rfl (Nat.le_of_ble_eq_true rfl) rfl ?_
  refine g_iload d_104_69 rfl ?_
  refine g_istore_n d_104_71 rfl (Nat.le_of_ble_eq_true rfl) rfl ?_
  refine g_iinc (w := 1) d_104_72 rfl (by decide) (Nat.le_of_ble_eq_true rfl) rfl ?_
  refine g_goto (tgt := 22) d_104_75 (by decide) ?_
  exact g_mask [true, true, true, true, true, false] kk

theorem k_104_72 {X : GX} {d : Nat} {h : Hp} {v1 : Int32} {v2 : Int32} {v3 : Int32} {v4 : Int32} (kk : G X d 104 22 [some (.ref 0), some (.int v1), some (.int v2), some (.int v3), some (.int (v4 + 1)), none] [] h) : G X d 104 72 [some (.ref 0), some (.int v1), some (.int v2), some (.int v3), some (.int v4), none] [] h := by
  refine g_iinc (w := 1) d_104_72 rfl (by decide) (Nat.le_of_ble_eq_true rfl) rfl ?_
  refine g_goto (tgt := 22) d_104_75 (by decide) ?_
  exact kk

theorem k_104_78 {X : GX} {d : Nat} {h : Hp} {v2 : Int32} (hq : RtX X (some (.int v2)) h) : G X d 104 78 [none, none, some (.int v2), none, none, none] [] h := by
  refine g_iload_n d_104_78 rfl rfl ?_
  exact g_reti d_104_79 rfl hq

/-! 107 PlayedTruth.best(I)I -/
theorem k_107_0 {X : GX} {d : Nat} {h : Hp} {v1 : Int32} {d' : Nat} {Q' : Int32 → Hp → Prop} (hdd : d' < d) (hC : CI d' 108 [.int v1] h Q') (kk : ∀ x h', Q' x h' → G X d 107 4 [some (.ref 0), some (.int v1)] [.int x] h') : G X d 107 0 [some (.ref 0), some (.int v1)] [] h := by
  refine g_iload_n d_107_0 rfl rfl ?_
  exact g_callSI (mj := 108) [.int v1] [] d_107_1 wd_265 mo_108 mc_108 mv_108 rfl rfl (Nat.le_of_ble_eq_true rfl)  hdd hC kk

theorem k_107_4 {X : GX} {d : Nat} {h : Hp} {v1 : Int32} {s0 : Int32} (kt : ¬ s0 = 0 → G X d 107 9 [some (.ref 0), some (.int v1)] [] h) (kf : s0 = 0 → G X d 107 7 [none, none] [] h) : G X d 107 4 [some (.ref 0), some (.int v1)] [.int s0] h := by
  exact g_if_ne (tgt := 9) d_107_4 (by decide) kt (fun q => g_mask [false, false] (kf q))

theorem k_107_7 {X : GX} {d : Nat} {h : Hp} (hq : RtX X (some (.int ((-1)))) h) : G X d 107 7 [none, none] [] h := by
  refine g_iconst (v := (-1)) d_107_7 (by decide) ?_
  exact g_reti d_107_8 rfl hq

theorem k_107_9 {X : GX} {d : Nat} {h : Hp} {v1 : Int32} {d' : Nat} {Q' : Hp → Prop} (hdd : d' < d) (hC : CV d' 109 [.ref 31, .int v1, .int 0] h Q') (kk : ∀ h', Q' h' → G X d 107 18 [some (.ref 0), none] [] h') : G X d 107 9 [some (.ref 0), some (.int v1)] [] h := by
  refine g_aload_n d_107_9 rfl rfl ?_
  refine g_getf (ci := 8) (k := 4) d_107_10 wd_133 (Nat.le_of_ble_eq_true rfl) rfl rfl ?_
  refine g_iload_n d_107_13 rfl rfl ?_
  refine g_iconst (v := 0) d_107_14 (by decide) ?_
  exact g_callVV (mj := 109) 1 [.int v1, .int 0] [] d_107_15 wd_266 mo_109 mc_109 mv_109 rfl rfl rfl (Nat.le_of_ble_eq_true rfl) rfl hdd hC (fun h' q => g_mask [true, false] (kk h' q))

theorem k_107_18 {X : GX} {d : Nat} {h : Hp} (hq : RtX X (some (.int (h 31 6))) h) : G X d 107 18 [some (.ref 0), none] [] h := by
  refine g_aload_n d_107_18 rfl rfl ?_
  refine g_getf (ci := 8) (k := 4) d_107_19 wd_133 (Nat.le_of_ble_eq_true rfl) rfl rfl ?_
  refine g_getf (ci := 1) (k := 6) d_107_22 wd_96 (Nat.le_of_ble_eq_true rfl) rfl rfl ?_
  exact g_reti d_107_25 rfl hq

/-! 108 PlayedTruth.isPlanned(I)Z -/
theorem k_108_0 {X : GX} {d : Nat} {h : Hp} {v0 : Int32} {d' : Nat} {Q' : Int32 → Hp → Prop} (hdd : d' < d) (hC : CI d' 11 [.int v0, .int 0, .int 4] h Q') (kk : ∀ x h', Q' x h' → G X d 108 6 [none] [.int x] h') : G X d 108 0 [some (.int v0)] [] h := by
  refine g_iload_n d_108_0 rfl rfl ?_
  refine g_iconst (v := 0) d_108_1 (by decide) ?_
  refine g_iconst (v := 4) d_108_2 (by decide) ?_
  exact g_callSI (mj := 11) [.int v0, .int 0, .int 4] [] d_108_3 wd_143 mo_11 mc_11 mv_11 rfl rfl (Nat.le_of_ble_eq_true rfl)  hdd hC (fun x h' q => g_mask [false] (kk x h' q))

theorem k_108_6 {X : GX} {d : Nat} {h : Hp} {s0 : Int32} (z0 : s0 = 0 ∨ s0 = 1) (hq : RtX X (some (.int s0)) h) : G X d 108 6 [none] [.int s0] h := by
  exact g_retz d_108_6 rfl z0 hq

/-! 113 PlayedTruth.ith(II)I -/
theorem k_113_0 {X : GX} {d : Nat} {h : Hp} {v1 : Int32} {v2 : Int32} {d' : Nat} {Q' : Int32 → Hp → Prop} (hdd : d' < d) (hC : CI d' 108 [.int v1] h Q') (kk : ∀ x h', Q' x h' → G X d 113 4 [some (.ref 0), some (.int v1), some (.int v2)] [.int x] h') : G X d 113 0 [some (.ref 0), some (.int v1), some (.int v2)] [] h := by
  refine g_iload_n d_113_0 rfl rfl ?_
  exact g_callSI (mj := 108) [.int v1] [] d_113_1 wd_265 mo_108 mc_108 mv_108 rfl rfl (Nat.le_of_ble_eq_true rfl)  hdd hC kk

theorem k_113_4 {X : GX} {d : Nat} {h : Hp} {v1 : Int32} {v2 : Int32} {s0 : Int32} (kt : s0 = 0 → G X d 113 16 [none, none, none] [] h) (kf : ¬ s0 = 0 → G X d 113 7 [some (.ref 0), some (.int v1), some (.int v2)] [] h) : G X d 113 4 [some (.ref 0), some (.int v1), some (.int v2)] [.int s0] h := by
  exact g_if_eq (tgt := 16) d_113_4 (by decide) (fun q => g_mask [false, false, false] (kt q)) kf

theorem k_113_7 {X : GX} {d : Nat} {h : Hp} {v1 : Int32} {v2 : Int32} {d' : Nat} {Q' : Int32 → Hp → Prop} (hdd : d' < d) (hC : CI d' 11 [.int v2, .int 0, .int 3] h Q') (kk : ∀ x h', Q' x h' → G X d 113 13 [some (.ref 0), some (.int v1), some (.int v2)] [.int x] h') : G X d 113 7 [some (.ref 0), some (.int v1), some (.int v2)] [] h := by
  refine g_iload_n d_113_7 rfl rfl ?_
  refine g_iconst (v := 0) d_113_8 (by decide) ?_
  refine g_iconst (v := 3) d_113_9 (by decide) ?_
  exact g_callSI (mj := 11) [.int v2, .int 0, .int 3] [] d_113_10 wd_143 mo_11 mc_11 mv_11 rfl rfl (Nat.le_of_ble_eq_true rfl)  hdd hC kk

theorem k_113_13 {X : GX} {d : Nat} {h : Hp} {v1 : Int32} {v2 : Int32} {s0 : Int32} (kt : ¬ s0 = 0 → G X d 113 18 [some (.ref 0), some (.int v1), some (.int v2)] [] h) (kf : s0 = 0 → G X d 113 16 [none, none, none] [] h) : G X d 113 13 [some (.ref 0), some (.int v1), some (.int v2)] [.int s0] h := by
  exact g_if_ne (tgt := 18) d_113_13 (by decide) kt (fun q => g_mask [false, false, false] (kf q))

theorem k_113_16 {X : GX} {d : Nat} {h : Hp} (hq : RtX X (some (.int ((-1)))) h) : G X d 113 16 [none, none, none] [] h := by
  refine g_iconst (v := (-1)) d_113_16 (by decide) ?_
  exact g_reti d_113_17 rfl hq

theorem k_113_18 {X : GX} {d : Nat} {h : Hp} {v1 : Int32} {v2 : Int32} {d' : Nat} {Q' : Hp → Prop} (hdd : d' < d) (hC : CV d' 109 [.ref 31, .int v1, .int 0] h Q') (kk : ∀ h', Q' h' → G X d 113 27 [some (.ref 0), none, some (.int v2)] [] h') : G X d 113 18 [some (.ref 0), some (.int v1), some (.int v2)] [] h := by
  refine g_aload_n d_113_18 rfl rfl ?_
  refine g_getf (ci := 8) (k := 4) d_113_19 wd_133 (Nat.le_of_ble_eq_true rfl) rfl rfl ?_
  refine g_iload_n d_113_22 rfl rfl ?_
  refine g_iconst (v := 0) d_113_23 (by decide) ?_
  exact g_callVV (mj := 109) 1 [.int v1, .int 0] [] d_113_24 wd_266 mo_109 mc_109 mv_109 rfl rfl rfl (Nat.le_of_ble_eq_true rfl) rfl hdd hC (fun h' q => g_mask [true, false, true] (kk h' q))

theorem k_113_27 {X : GX} {d : Nat} {h : Hp} {v2 : Int32} (kt : (h 31 5) ≤ v2 → G X d 113 50 [none, none, none] [] h) (kf : ¬ (h 31 5) ≤ v2 → G X d 113 38 [some (.ref 0), none, some (.int v2)] [] h) : G X d 113 27 [some (.ref 0), none, some (.int v2)] [] h := by
  refine g_iload_n d_113_27 rfl rfl ?_
  refine g_aload_n d_113_28 rfl rfl ?_
  refine g_getf (ci := 8) (k := 4) d_113_29 wd_133 (Nat.le_of_ble_eq_true rfl) rfl rfl ?_
  refine g_getf (ci := 1) (k := 5) d_113_32 wd_94 (Nat.le_of_ble_eq_true rfl) rfl rfl ?_
  exact g_icmp_ge (tgt := 50) d_113_35 (by decide) (fun q => g_mask [false, false, false] (kt q)) kf

theorem k_113_38 {X : GX} {d : Nat} {h : Hp} {v2 : Int32} (b0 : IA 34 v2) (hq : RtX X (some (.int (h 34 (Int32.toNatClampNeg v2)))) h) : G X d 113 38 [some (.ref 0), none, some (.int v2)] [] h := by
  refine g_aload_n d_113_38 rfl rfl ?_
  refine g_getf (ci := 8) (k := 4) d_113_39 wd_133 (Nat.le_of_ble_eq_true rfl) rfl rfl ?_
  refine g_getf (ci := 1) (k := 8) d_113_42 wd_100 (Nat.le_of_ble_eq_true rfl) rfl rfl ?_
  refine g_iload_n d_113_45 rfl rfl ?_
  refine g_iald d_113_46 b0 ?_
  refine g_goto (tgt := 52) d_113_47 (by decide) ?_
  exact g_reti d_113_52 rfl hq

theorem k_113_50 {X : GX} {d : Nat} {h : Hp} (hq : RtX X (some (.int ((-3)))) h) : G X d 113 50 [none, none, none] [] h := by
  refine g_bipush (v := (-3)) d_113_50 (by decide) ?_
  exact g_reti d_113_52 rfl hq

/-! 114 PlayedTruth.ways(I)I -/
theorem k_114_0 {X : GX} {d : Nat} {h : Hp} {v1 : Int32} {d' : Nat} {Q' : Int32 → Hp → Prop} (hdd : d' < d) (hC : CI d' 108 [.int v1] h Q') (kk : ∀ x h', Q' x h' → G X d 114 4 [some (.ref 0), some (.int v1)] [.int x] h') : G X d 114 0 [some (.ref 0), some (.int v1)] [] h := by
  refine g_iload_n d_114_0 rfl rfl ?_
  exact g_callSI (mj := 108) [.int v1] [] d_114_1 wd_265 mo_108 mc_108 mv_108 rfl rfl (Nat.le_of_ble_eq_true rfl)  hdd hC kk

theorem k_114_4 {X : GX} {d : Nat} {h : Hp} {v1 : Int32} {s0 : Int32} (kt : ¬ s0 = 0 → G X d 114 9 [some (.ref 0), some (.int v1)] [] h) (kf : s0 = 0 → G X d 114 7 [none, none] [] h) : G X d 114 4 [some (.ref 0), some (.int v1)] [.int s0] h := by
  exact g_if_ne (tgt := 9) d_114_4 (by decide) kt (fun q => g_mask [false, false] (kf q))

theorem k_114_7 {X : GX} {d : Nat} {h : Hp} (hq : RtX X (some (.int ((-1)))) h) : G X d 114 7 [none, none] [] h := by
  refine g_iconst (v := (-1)) d_114_7 (by decide) ?_
  exact g_reti d_114_8 rfl hq

theorem k_114_9 {X : GX} {d : Nat} {h : Hp} {v1 : Int32} {d' : Nat} {Q' : Hp → Prop} (hdd : d' < d) (hC : CV d' 109 [.ref 31, .int v1, .int 0] h Q') (kk : ∀ h', Q' h' → G X d 114 18 [some (.ref 0), none] [] h') : G X d 114 9 [some (.ref 0), some (.int v1)] [] h := by
  refine g_aload_n d_114_9 rfl rfl ?_
  refine g_getf (ci := 8) (k := 4) d_114_10 wd_133 (Nat.le_of_ble_eq_true rfl) rfl rfl ?_
  refine g_iload_n d_114_13 rfl rfl ?_
  refine g_iconst (v := 0) d_114_14 (by decide) ?_
  exact g_callVV (mj := 109) 1 [.int v1, .int 0] [] d_114_15 wd_266 mo_109 mc_109 mv_109 rfl rfl rfl (Nat.le_of_ble_eq_true rfl) rfl hdd hC (fun h' q => g_mask [true, false] (kk h' q))

theorem k_114_18 {X : GX} {d : Nat} {h : Hp} (hq : RtX X (some (.int (h 31 7))) h) : G X d 114 18 [some (.ref 0), none] [] h := by
  refine g_aload_n d_114_18 rfl rfl ?_
  refine g_getf (ci := 8) (k := 4) d_114_19 wd_133 (Nat.le_of_ble_eq_true rfl) rfl rfl ?_
  refine g_getf (ci := 1) (k := 7) d_114_22 wd_98 (Nat.le_of_ble_eq_true rfl) rfl rfl ?_
  exact g_reti d_114_25 rfl hq

/-! 115 PlayedTruth.bill(II)I -/
theorem k_115_0 {X : GX} {d : Nat} {h : Hp} {v1 : Int32} {v2 : Int32} {d' : Nat} {Q' : Int32 → Hp → Prop} (hdd : d' < d) (hC : CI d' 108 [.int v1] h Q') (kk : ∀ x h', Q' x h' → G X d 115 4 [some (.ref 0), some (.int v1), some (.int v2)] [.int x] h') : G X d 115 0 [some (.ref 0), some (.int v1), some (.int v2)] [] h := by
  refine g_iload_n d_115_0 rfl rfl ?_
  exact g_callSI (mj := 108) [.int v1] [] d_115_1 wd_265 mo_108 mc_108 mv_108 rfl rfl (Nat.le_of_ble_eq_true rfl)  hdd hC kk

theorem k_115_4 {X : GX} {d : Nat} {h : Hp} {v1 : Int32} {v2 : Int32} {s0 : Int32} (kt : s0 = 0 → G X d 115 15 [none, none, none] [] h) (kf : ¬ s0 = 0 → G X d 115 7 [some (.ref 0), some (.int v1), some (.int v2)] [] h) : G X d 115 4 [some (.ref 0), some (.int v1), some (.int v2)] [.int s0] h := by
  exact g_if_eq (tgt := 15) d_115_4 (by decide) (fun q => g_mask [false, false, false] (kt q)) kf

theorem k_115_7 {X : GX} {d : Nat} {h : Hp} {v1 : Int32} {v2 : Int32} {d' : Nat} {Q' : Int32 → Hp → Prop} (hdd : d' < d) (hC : CI d' 116 [.ref 0, .int v2] h Q') (kk : ∀ x h', Q' x h' → G X d 115 12 [some (.ref 0), some (.int v1), some (.int v2)] [.int x] h') : G X d 115 7 [some (.ref 0), some (.int v1), some (.int v2)] [] h := by
  refine g_aload_n d_115_7 rfl rfl ?_
  refine g_iload_n d_115_8 rfl rfl ?_
  exact g_callVI (mj := 116) 8 [.int v2] [] d_115_9 wd_276 mo_116 mc_116 mv_116 rfl rfl rfl (Nat.le_of_ble_eq_true rfl) rfl hdd hC kk

theorem k_115_12 {X : GX} {d : Nat} {h : Hp} {v1 : Int32} {v2 : Int32} {s0 : Int32} (kt : ¬ s0 = 0 → G X d 115 17 [some (.ref 0), some (.int v1), some (.int v2)] [] h) (kf : s0 = 0 → G X d 115 15 [none, none, none] [] h) : G X d 115 12 [some (.ref 0), some (.int v1), some (.int v2)] [.int s0] h := by
  exact g_if_ne (tgt := 17) d_115_12 (by decide) kt (fun q => g_mask [false, false, false] (kf q))

theorem k_115_15 {X : GX} {d : Nat} {h : Hp} (hq : RtX X (some (.int ((-1)))) h) : G X d 115 15 [none, none, none] [] h := by
  refine g_iconst (v := (-1)) d_115_15 (by decide) ?_
  exact g_reti d_115_16 rfl hq

theorem k_115_17 {X : GX} {d : Nat} {h : Hp} {v1 : Int32} {v2 : Int32} {d' : Nat} {Q' : Hp → Prop} (hdd : d' < d) (hC : CV d' 109 [.ref 31, .int v1, .int v2] h Q') (kk : ∀ h', Q' h' → G X d 115 26 [some (.ref 0), none, none] [] h') : G X d 115 17 [some (.ref 0), some (.int v1), some (.int v2)] [] h := by
  refine g_aload_n d_115_17 rfl rfl ?_
  refine g_getf (ci := 8) (k := 4) d_115_18 wd_133 (Nat.le_of_ble_eq_true rfl) rfl rfl ?_
  refine g_iload_n d_115_21 rfl rfl ?_
  refine g_iload_n d_115_22 rfl rfl ?_
  exact g_callVV (mj := 109) 1 [.int v1, .int v2] [] d_115_23 wd_266 mo_109 mc_109 mv_109 rfl rfl rfl (Nat.le_of_ble_eq_true rfl) rfl hdd hC (fun h' q => g_mask [true, false, false] (kk h' q))

theorem k_115_26 {X : GX} {d : Nat} {h : Hp} (hq : RtX X (some (.int (h 31 9))) h) : G X d 115 26 [some (.ref 0), none, none] [] h := by
  refine g_aload_n d_115_26 rfl rfl ?_
  refine g_getf (ci := 8) (k := 4) d_115_27 wd_133 (Nat.le_of_ble_eq_true rfl) rfl rfl ?_
  refine g_getf (ci := 1) (k := 9) d_115_30 wd_102 (Nat.le_of_ble_eq_true rfl) rfl rfl ?_
  exact g_reti d_115_33 rfl hq

/-! 116 PlayedTruth.isSetOfScenes(I)Z -/
theorem k_116_0 {X : GX} {d : Nat} {h : Hp} {v1 : Int32} {d' : Nat} {Q' : Int32 → Hp → Prop} (hdd : d' < d) (hC : CI d' 11 [.int v1, .int 0, .int ((1 <<< ((h 1 7) &&& 31)) - 1)] h Q') (kk : ∀ x h', Q' x h' → G X d 116 16 [none, none] [.int x] h') : G X d 116 0 [some (.ref 0), some (.int v1)] [] h := by
  refine g_iload_n d_116_0 rfl rfl ?_
  refine g_iconst (v := 0) d_116_1 (by decide) ?_
  refine g_iconst (v := 1) d_116_2 (by decide) ?_
  refine g_aload_n d_116_3 rfl rfl ?_
  refine g_getf (ci := 8) (k := 0) d_116_4 wd_129 (Nat.le_of_ble_eq_true rfl) rfl rfl ?_
  refine g_getf (ci := 6) (k := 7) d_116_7 wd_28 (Nat.le_of_ble_eq_true rfl) rfl rfl ?_
  refine g_ishl d_116_10 ?_
  refine g_iconst (v := 1) d_116_11 (by decide) ?_
  refine g_isub d_116_12 ?_
  exact g_callSI (mj := 11) [.int v1, .int 0, .int ((1 <<< ((h 1 7) &&& 31)) - 1)] [] d_116_13 wd_143 mo_11 mc_11 mv_11 rfl rfl (Nat.le_of_ble_eq_true rfl)  hdd hC (fun x h' q => g_mask [false, false] (kk x h' q))

theorem k_116_16 {X : GX} {d : Nat} {h : Hp} {s0 : Int32} (z0 : s0 = 0 ∨ s0 = 1) (hq : RtX X (some (.int s0)) h) : G X d 116 16 [none, none] [.int s0] h := by
  exact g_retz d_116_16 rfl z0 hq

/-! 117 PlayedTruth.bars(II)I -/
theorem k_117_0 {X : GX} {d : Nat} {h : Hp} {v1 : Int32} {v2 : Int32} {d' : Nat} {Q' : Int32 → Hp → Prop} (hdd : d' < d) (hC : CI d' 108 [.int v1] h Q') (kk : ∀ x h', Q' x h' → G X d 117 4 [some (.ref 0), some (.int v1), some (.int v2)] [.int x] h') : G X d 117 0 [some (.ref 0), some (.int v1), some (.int v2)] [] h := by
  refine g_iload_n d_117_0 rfl rfl ?_
  exact g_callSI (mj := 108) [.int v1] [] d_117_1 wd_265 mo_108 mc_108 mv_108 rfl rfl (Nat.le_of_ble_eq_true rfl)  hdd hC kk

theorem k_117_4 {X : GX} {d : Nat} {h : Hp} {v1 : Int32} {v2 : Int32} {s0 : Int32} (kt : s0 = 0 → G X d 117 15 [none, none, none] [] h) (kf : ¬ s0 = 0 → G X d 117 7 [some (.ref 0), some (.int v1), some (.int v2)] [] h) : G X d 117 4 [some (.ref 0), some (.int v1), some (.int v2)] [.int s0] h := by
  exact g_if_eq (tgt := 15) d_117_4 (by decide) (fun q => g_mask [false, false, false] (kt q)) kf

theorem k_117_7 {X : GX} {d : Nat} {h : Hp} {v1 : Int32} {v2 : Int32} {d' : Nat} {Q' : Int32 → Hp → Prop} (hdd : d' < d) (hC : CI d' 116 [.ref 0, .int v2] h Q') (kk : ∀ x h', Q' x h' → G X d 117 12 [some (.ref 0), some (.int v1), some (.int v2)] [.int x] h') : G X d 117 7 [some (.ref 0), some (.int v1), some (.int v2)] [] h := by
  refine g_aload_n d_117_7 rfl rfl ?_
  refine g_iload_n d_117_8 rfl rfl ?_
  exact g_callVI (mj := 116) 8 [.int v2] [] d_117_9 wd_276 mo_116 mc_116 mv_116 rfl rfl rfl (Nat.le_of_ble_eq_true rfl) rfl hdd hC kk

theorem k_117_12 {X : GX} {d : Nat} {h : Hp} {v1 : Int32} {v2 : Int32} {s0 : Int32} (kt : ¬ s0 = 0 → G X d 117 17 [some (.ref 0), some (.int v1), some (.int v2)] [] h) (kf : s0 = 0 → G X d 117 15 [none, none, none] [] h) : G X d 117 12 [some (.ref 0), some (.int v1), some (.int v2)] [.int s0] h := by
  exact g_if_ne (tgt := 17) d_117_12 (by decide) kt (fun q => g_mask [false, false, false] (kf q))

theorem k_117_15 {X : GX} {d : Nat} {h : Hp} (hq : RtX X (some (.int ((-1)))) h) : G X d 117 15 [none, none, none] [] h := by
  refine g_iconst (v := (-1)) d_117_15 (by decide) ?_
  exact g_reti d_117_16 rfl hq

theorem k_117_17 {X : GX} {d : Nat} {h : Hp} {v1 : Int32} {v2 : Int32} {d' : Nat} {Q' : Hp → Prop} (hdd : d' < d) (hC : CV d' 109 [.ref 31, .int v1, .int v2] h Q') (kk : ∀ h', Q' h' → G X d 117 26 [some (.ref 0), none, some (.int v2)] [] h') : G X d 117 17 [some (.ref 0), some (.int v1), some (.int v2)] [] h := by
  refine g_aload_n d_117_17 rfl rfl ?_
  refine g_getf (ci := 8) (k := 4) d_117_18 wd_133 (Nat.le_of_ble_eq_true rfl) rfl rfl ?_
  refine g_iload_n d_117_21 rfl rfl ?_
  refine g_iload_n d_117_22 rfl rfl ?_
  exact g_callVV (mj := 109) 1 [.int v1, .int v2] [] d_117_23 wd_266 mo_109 mc_109 mv_109 rfl rfl rfl (Nat.le_of_ble_eq_true rfl) rfl hdd hC (fun h' q => g_mask [true, false, true] (kk h' q))

theorem k_117_26 {X : GX} {d : Nat} {h : Hp} {v2 : Int32} {d' : Nat} {Q' : Int32 → Hp → Prop} (hdd : d' < d) (hC : CI d' 118 [.int (v2 &&& ((h 31 10) ^^^ ((-1))))] h Q') (kk : ∀ x h', Q' x h' → G X d 117 40 [none, none, none] [.int x] h') : G X d 117 26 [some (.ref 0), none, some (.int v2)] [] h := by
  refine g_iload_n d_117_26 rfl rfl ?_
  refine g_aload_n d_117_27 rfl rfl ?_
  refine g_getf (ci := 8) (k := 4) d_117_28 wd_133 (Nat.le_of_ble_eq_true rfl) rfl rfl ?_
  refine g_getf (ci := 1) (k := 10) d_117_31 wd_104 (Nat.le_of_ble_eq_true rfl) rfl rfl ?_
  refine g_iconst (v := (-1)) d_117_34 (by decide) ?_
  refine g_ixor d_117_35 ?_
  refine g_iand d_117_36 ?_
  exact g_callSI (mj := 118) [.int (v2 &&& ((h 31 10) ^^^ ((-1))))] [] d_117_37 wd_278 mo_118 mc_118 mv_118 rfl rfl (Nat.le_of_ble_eq_true rfl)  hdd hC (fun x h' q => g_mask [false, false, false] (kk x h' q))

theorem k_117_40 {X : GX} {d : Nat} {h : Hp} {s0 : Int32} (hq : RtX X (some (.int s0)) h) : G X d 117 40 [none, none, none] [.int s0] h := by
  exact g_reti d_117_40 rfl hq

/-! 118 PlayedTruth.leastOf(I)I -/
theorem k_118_0 {X : GX} {d : Nat} {h : Hp} {v0 : Int32} (kk : G X d 118 2 [some (.int v0), some (.int 0)] [] h) : G X d 118 0 [some (.int v0), none] [] h := by
  refine g_iconst (v := 0) d_118_0 (by decide) ?_
  refine g_istore_n d_118_1 rfl (Nat.le_of_ble_eq_true rfl) rfl ?_
  exact kk

theorem k_118_2 {X : GX} {d : Nat} {h : Hp} {v0 : Int32} {v1 : Int32} (kt : 6 ≤ v1 → G X d 118 25 [none, none] [] h) (kf : ¬ 6 ≤ v1 → G X d 118 8 [some (.int v0), some (.int v1)] [] h) : G X d 118 2 [some (.int v0), some (.int v1)] [] h := by
  refine g_iload_n d_118_2 rfl rfl ?_
  refine g_bipush (v := 6) d_118_3 (by decide) ?_
  exact g_icmp_ge (tgt := 25) d_118_5 (by decide) (fun q => g_mask [false, false] (kt q)) kf

theorem k_118_8 {X : GX} {d : Nat} {h : Hp} {v0 : Int32} {v1 : Int32} (kt : ¬ ((v0 >>> (v1 &&& 31)) &&& 1) = 1 → G X d 118 19 [some (.int v0), some (.int v1)] [] h) (kf : ((v0 >>> (v1 &&& 31)) &&& 1) = 1 → G X d 118 17 [none, some (.int v1)] [] h) : G X d 118 8 [some (.int v0), some (.int v1)] [] h := by
  refine g_iload_n d_118_8 rfl rfl ?_
  refine g_iload_n d_118_9 rfl rfl ?_
  refine g_ishr d_118_10 ?_
  refine g_iconst (v := 1) d_118_11 (by decide) ?_
  refine g_iand d_118_12 ?_
  refine g_iconst (v := 1) d_118_13 (by decide) ?_
  exact g_icmp_ne (tgt := 19) d_118_14 (by decide) kt (fun q => g_mask [false, true] (kf q))

theorem k_118_17 {X : GX} {d : Nat} {h : Hp} {v1 : Int32} (hq : RtX X (some (.int v1)) h) : G X d 118 17 [none, some (.int v1)] [] h := by
  refine g_iload_n d_118_17 rfl rfl ?_
  exact g_reti d_118_18 rfl hq

theorem k_118_19 {X : GX} {d : Nat} {h : Hp} {v0 : Int32} {v1 : Int32} (kk : G X d 118 2 [some (.int v0), some (.int (v1 + 1))] [] h) : G X d 118 19 [some (.int v0), some (.int v1)] [] h := by
  refine g_iinc (w := 1) d_118_19 rfl (by decide) (Nat.le_of_ble_eq_true rfl) rfl ?_
  refine g_goto (tgt := 2) d_118_22 (by decide) ?_
  exact kk

theorem k_118_25 {X : GX} {d : Nat} {h : Hp} (hq : RtX X (some (.int ((-3)))) h) : G X d 118 25 [none, none] [] h := by
  refine g_bipush (v := (-3)) d_118_25 (by decide) ?_
  exact g_reti d_118_27 rfl hq

/-! 119 PlayedTruth.game(I)I -/
theorem k_119_0 {X : GX} {d : Nat} {h : Hp} {v1 : Int32} {d' : Nat} {Q' : Int32 → Hp → Prop} (hdd : d' < d) (hC : CI d' 11 [.int v1, .int 1, .int 4] h Q') (kk : ∀ x h', Q' x h' → G X d 119 6 [some (.ref 0), some (.int v1)] [.int x] h') : G X d 119 0 [some (.ref 0), some (.int v1)] [] h := by
  refine g_iload_n d_119_0 rfl rfl ?_
  refine g_iconst (v := 1) d_119_1 (by decide) ?_
  refine g_iconst (v := 4) d_119_2 (by decide) ?_
  exact g_callSI (mj := 11) [.int v1, .int 1, .int 4] [] d_119_3 wd_143 mo_11 mc_11 mv_11 rfl rfl (Nat.le_of_ble_eq_true rfl)  hdd hC kk

theorem k_119_6 {X : GX} {d : Nat} {h : Hp} {v1 : Int32} {s0 : Int32} (kt : ¬ s0 = 0 → G X d 119 11 [some (.ref 0), some (.int v1)] [] h) (kf : s0 = 0 → G X d 119 9 [none, none] [] h) : G X d 119 6 [some (.ref 0), some (.int v1)] [.int s0] h := by
  exact g_if_ne (tgt := 11) d_119_6 (by decide) kt (fun q => g_mask [false, false] (kf q))

theorem k_119_9 {X : GX} {d : Nat} {h : Hp} (hq : RtX X (some (.int ((-1)))) h) : G X d 119 9 [none, none] [] h := by
  refine g_iconst (v := (-1)) d_119_9 (by decide) ?_
  exact g_reti d_119_10 rfl hq

theorem k_119_11 {X : GX} {d : Nat} {h : Hp} {v1 : Int32} {d' : Nat} {Q' : Int32 → Hp → Prop} (hdd : d' < d) (hC : CI d' 120 [.ref 31, .int v1] h Q') (kk : ∀ x h', Q' x h' → G X d 119 19 [none, none] [.int x] h') : G X d 119 11 [some (.ref 0), some (.int v1)] [] h := by
  refine g_aload_n d_119_11 rfl rfl ?_
  refine g_getf (ci := 8) (k := 4) d_119_12 wd_133 (Nat.le_of_ble_eq_true rfl) rfl rfl ?_
  refine g_iload_n d_119_15 rfl rfl ?_
  exact g_callVI (mj := 120) 1 [.int v1] [] d_119_16 wd_280 mo_120 mc_120 mv_120 rfl rfl rfl (Nat.le_of_ble_eq_true rfl) rfl hdd hC (fun x h' q => g_mask [false, false] (kk x h' q))

theorem k_119_19 {X : GX} {d : Nat} {h : Hp} {s0 : Int32} (hq : RtX X (some (.int s0)) h) : G X d 119 19 [none, none] [.int s0] h := by
  exact g_reti d_119_19 rfl hq

/-! 122 PlayedTruth.play(I)I -/
theorem k_122_0 {X : GX} {d : Nat} {h : Hp} {v1 : Int32} {d' : Nat} {Q' : Int32 → Hp → Prop} (hdd : d' < d) (hC : CI d' 11 [.int v1, .int 1, .int 4] h Q') (kk : ∀ x h', Q' x h' → G X d 122 6 [some (.ref 0), some (.int v1)] [.int x] h') : G X d 122 0 [some (.ref 0), some (.int v1)] [] h := by
  refine g_iload_n d_122_0 rfl rfl ?_
  refine g_iconst (v := 1) d_122_1 (by decide) ?_
  refine g_iconst (v := 4) d_122_2 (by decide) ?_
  exact g_callSI (mj := 11) [.int v1, .int 1, .int 4] [] d_122_3 wd_143 mo_11 mc_11 mv_11 rfl rfl (Nat.le_of_ble_eq_true rfl)  hdd hC kk

theorem k_122_6 {X : GX} {d : Nat} {h : Hp} {v1 : Int32} {s0 : Int32} (kt : ¬ s0 = 0 → G X d 122 11 [some (.ref 0), some (.int v1)] [] h) (kf : s0 = 0 → G X d 122 9 [none, none] [] h) : G X d 122 6 [some (.ref 0), some (.int v1)] [.int s0] h := by
  exact g_if_ne (tgt := 11) d_122_6 (by decide) kt (fun q => g_mask [false, false] (kf q))

theorem k_122_9 {X : GX} {d : Nat} {h : Hp} (hq : RtX X (some (.int ((-1)))) h) : G X d 122 9 [none, none] [] h := by
  refine g_iconst (v := (-1)) d_122_9 (by decide) ?_
  exact g_reti d_122_10 rfl hq

theorem k_122_11 {X : GX} {d : Nat} {h : Hp} {v1 : Int32} {d' : Nat} {Q' : Int32 → Hp → Prop} (hdd : d' < d) (hC : CI d' 38 [.ref 1, .ref 13] h Q') (kk : ∀ x h', Q' x h' → G X d 122 22 [some (.ref 0), some (.int v1)] [.int x] h') : G X d 122 11 [some (.ref 0), some (.int v1)] [] h := by
  refine g_aload_n d_122_11 rfl rfl ?_
  refine g_getf (ci := 8) (k := 0) d_122_12 wd_129 (Nat.le_of_ble_eq_true rfl) rfl rfl ?_
  refine g_aload_n d_122_15 rfl rfl ?_
  refine g_getf (ci := 8) (k := 1) d_122_16 wd_130 (Nat.le_of_ble_eq_true rfl) rfl rfl ?_
  exact g_callVI (mj := 38) 6 [.ref 13] [] d_122_19 wd_175 mo_38 mc_38 mv_38 rfl rfl rfl (Nat.le_of_ble_eq_true rfl) rfl hdd hC kk

theorem k_122_22 {X : GX} {d : Nat} {h : Hp} {v1 : Int32} {s0 : Int32} (kt : s0 = 0 → G X d 122 28 [some (.ref 0), some (.int v1)] [] h) (kf : ¬ s0 = 0 → G X d 122 25 [none, none] [] h) : G X d 122 22 [some (.ref 0), some (.int v1)] [.int s0] h := by
  exact g_if_eq (tgt := 28) d_122_22 (by decide) kt (fun q => g_mask [false, false] (kf q))

theorem k_122_25 {X : GX} {d : Nat} {h : Hp} (hq : RtX X (some (.int ((-3)))) h) : G X d 122 25 [none, none] [] h := by
  refine g_bipush (v := (-3)) d_122_25 (by decide) ?_
  exact g_reti d_122_27 rfl hq

theorem k_122_28 {X : GX} {d : Nat} {h : Hp} {v1 : Int32} {d' : Nat} {Q' : Int32 → Hp → Prop} (hdd : d' < d) (hC : CI d' 120 [.ref 31, .int v1] h Q') (kk : ∀ x h', Q' x h' → G X d 122 36 [some (.ref 0), none] [.int x] h') : G X d 122 28 [some (.ref 0), some (.int v1)] [] h := by
  refine g_aload_n d_122_28 rfl rfl ?_
  refine g_getf (ci := 8) (k := 4) d_122_29 wd_133 (Nat.le_of_ble_eq_true rfl) rfl rfl ?_
  refine g_iload_n d_122_32 rfl rfl ?_
  exact g_callVI (mj := 120) 1 [.int v1] [] d_122_33 wd_280 mo_120 mc_120 mv_120 rfl rfl rfl (Nat.le_of_ble_eq_true rfl) rfl hdd hC (fun x h' q => g_mask [true, false] (kk x h' q))

theorem k_122_36 {X : GX} {d : Nat} {h : Hp} {s0 : Int32} (hq : RtX X (some (.int (h 31 11))) h) : G X d 122 36 [some (.ref 0), none] [.int s0] h := by
  refine g_pop d_122_36 rfl ?_
  refine g_aload_n d_122_37 rfl rfl ?_
  refine g_getf (ci := 8) (k := 4) d_122_38 wd_133 (Nat.le_of_ble_eq_true rfl) rfl rfl ?_
  refine g_getf (ci := 1) (k := 11) d_122_41 wd_106 (Nat.le_of_ble_eq_true rfl) rfl rfl ?_
  exact g_reti d_122_44 rfl hq

/-! 123 PlayedTruth.report(IIII)I -/
theorem k_123_0 {X : GX} {d : Nat} {h : Hp} {v1 : Int32} {v2 : Int32} {v3 : Int32} {v4 : Int32} {d' : Nat} {Q' : Int32 → Hp → Prop} (hdd : d' < d) (hC : CI d' 11 [.int v1, .int 0, .int 15] h Q') (kk : ∀ x h', Q' x h' → G X d 123 7 [some (.ref 0), some (.int v1), some (.int v2), some (.int v3), some (.int v4), none] [.int x] h') : G X d 123 0 [some (.ref 0), some (.int v1), some (.int v2), some (.int v3), some (.int v4), none] [] h := by
  refine g_iload_n d_123_0 rfl rfl ?_
  refine g_iconst (v := 0) d_123_1 (by decide) ?_
  refine g_bipush (v := 15) d_123_2 (by decide) ?_
  exact g_callSI (mj := 11) [.int v1, .int 0, .int 15] [] d_123_4 wd_143 mo_11 mc_11 mv_11 rfl rfl (Nat.le_of_ble_eq_true rfl)  hdd hC kk

theorem k_123_7 {X : GX} {d : Nat} {h : Hp} {v1 : Int32} {v2 : Int32} {v3 : Int32} {v4 : Int32} {s0 : Int32} (kt : s0 = 0 → G X d 123 19 [none, none, none, none, none, none] [] h) (kf : ¬ s0 = 0 → G X d 123 10 [some (.ref 0), some (.int v1), some (.int v2), some (.int v3), some (.int v4), none] [] h) : G X d 123 7 [some (.ref 0), some (.int v1), some (.int v2), some (.int v3), some (.int v4), none] [.int s0] h := by
  exact g_if_eq (tgt := 19) d_123_7 (by decide) (fun q => g_mask [false, false, false, false, false, false] (kt q)) kf

theorem k_123_10 {X : GX} {d : Nat} {h : Hp} {v1 : Int32} {v2 : Int32} {v3 : Int32} {v4 : Int32} {d' : Nat} {Q' : Int32 → Hp → Prop} (hdd : d' < d) (hC : CI d' 11 [.int v2, .int 0, .int 1] h Q') (kk : ∀ x h', Q' x h' → G X d 123 16 [some (.ref 0), some (.int v1), some (.int v2), some (.int v3), some (.int v4), none] [.int x] h') : G X d 123 10 [some (.ref 0), some (.int v1), some (.int v2), some (.int v3), some (.int v4), none] [] h := by
  refine g_iload_n d_123_10 rfl rfl ?_
  refine g_iconst (v := 0) d_123_11 (by decide) ?_
  refine g_iconst (v := 1) d_123_12 (by decide) ?_
  exact g_callSI (mj := 11) [.int v2, .int 0, .int 1] [] d_123_13 wd_143 mo_11 mc_11 mv_11 rfl rfl (Nat.le_of_ble_eq_true rfl)  hdd hC kk

theorem k_123_16 {X : GX} {d : Nat} {h : Hp} {v1 : Int32} {v2 : Int32} {v3 : Int32} {v4 : Int32} {s0 : Int32} (kt : ¬ s0 = 0 → G X d 123 21 [some (.ref 0), some (.int v1), some (.int v2), some (.int v3), some (.int v4), none] [] h) (kf : s0 = 0 → G X d 123 19 [none, none, none, none, none, none] [] h) : G X d 123 16 [some (.ref 0), some (.int v1), some (.int v2), some (.int v3), some (.int v4), none] [.int s0] h := by
  exact g_if_ne (tgt := 21) d_123_16 (by decide) kt (fun q => g_mask [false, false, false, false, false, false] (kf q))

theorem k_123_19 {X : GX} {d : Nat} {h : Hp} (hq : RtX X (some (.int ((-1)))) h) : G X d 123 19 [none, none, none, none, none, none] [] h := by
  refine g_iconst (v := (-1)) d_123_19 (by decide) ?_
  exact g_reti d_123_20 rfl hq

theorem k_123_21 {X : GX} {d : Nat} {h : Hp} {v1 : Int32} {v2 : Int32} {v3 : Int32} {v4 : Int32} (kt : ¬ v2 = 0 → G X d 123 30 [some (.ref 0), some (.int v1), some (.int v2), some (.int v3), some (.int v4), none] [] h) (kf : v2 = 0 → G X d 123 25 [some (.ref 0), some (.int v1), some (.int v2), some (.int v3), some (.int v4), none] [] h) : G X d 123 21 [some (.ref 0), some (.int v1), some (.int v2), some (.int v3), some (.int v4), none] [] h := by
  refine g_iload_n d_123_21 rfl rfl ?_
  exact g_if_ne (tgt := 30) d_123_22 (by decide) kt kf

theorem k_123_25 {X : GX} {d : Nat} {h : Hp} {v1 : Int32} {v2 : Int32} {v3 : Int32} {v4 : Int32} {d' : Nat} {Q' : Int32 → Hp → Prop} (hdd : d' < d) (hC : CI d' 11 [.int v3, .int 0, .int 99] h Q') (kk : ∀ x h', Q' x h' → G X d 123 42 [some (.ref 0), some (.int v1), some (.int v2), some (.int v3), some (.int v4), some (.int 99)] [.int x] h') : G X d 123 25 [some (.ref 0), some (.int v1), some (.int v2), some (.int v3), some (.int v4), none] [] h := by
  refine g_bipush (v := 99) d_123_25 (by decide) ?_
  refine g_goto (tgt := 33) d_123_27 (by decide) ?_
  refine g_istore d_123_33 (Nat.le_of_ble_eq_true rfl) rfl ?_
  refine g_iload_n d_123_35 rfl rfl ?_
  refine g_iconst (v := 0) d_123_36 (by decide) ?_
  refine g_iload d_123_37 rfl ?_
  exact g_callSI (mj := 11) [.int v3, .int 0, .int 99] [] d_123_39 wd_143 mo_11 mc_11 mv_11 rfl rfl (Nat.le_of_ble_eq_true rfl)  hdd hC kk

theorem k_123_30 {X : GX} {d : Nat} {h : Hp} {v1 : Int32} {v2 : Int32} {v3 : Int32} {v4 : Int32} {d' : Nat} {Q' : Int32 → Hp → Prop} (hdd : d' < d) (hC : CI d' 11 [.int v3, .int 0, .int 999] h Q') (kk : ∀ x h', Q' x h' → G X d 123 42 [some (.ref 0), some (.int v1), some (.int v2), some (.int v3), some (.int v4), some (.int 999)] [.int x] h') : G X d 123 30 [some (.ref 0), some (.int v1), some (.int v2), some (.int v3), some (.int v4), none] [] h := by
  refine g_sipush (v := 999) d_123_30 (by decide) ?_
  refine g_istore d_123_33 (Nat.le_of_ble_eq_true rfl) rfl ?_
  refine g_iload_n d_123_35 rfl rfl ?_
  refine g_iconst (v := 0) d_123_36 (by decide) ?_
  refine g_iload d_123_37 rfl ?_
  exact g_callSI (mj := 11) [.int v3, .int 0, .int 999] [] d_123_39 wd_143 mo_11 mc_11 mv_11 rfl rfl (Nat.le_of_ble_eq_true rfl)  hdd hC kk

theorem k_123_42 {X : GX} {d : Nat} {h : Hp} {v1 : Int32} {v2 : Int32} {v3 : Int32} {v4 : Int32} {v5 : Int32} {s0 : Int32} (kt : s0 = 0 → G X d 123 62 [none, none, none, none, none, none] [] h) (kf : ¬ s0 = 0 → G X d 123 45 [some (.ref 0), some (.int v1), some (.int v2), some (.int v3), some (.int v4), some (.int v5)] [] h) : G X d 123 42 [some (.ref 0), some (.int v1), some (.int v2), some (.int v3), some (.int v4), some (.int v5)] [.int s0] h := by
  exact g_if_eq (tgt := 62) d_123_42 (by decide) (fun q => g_mask [false, false, false, false, false, false] (kt q)) kf

theorem k_123_45 {X : GX} {d : Nat} {h : Hp} {v1 : Int32} {v2 : Int32} {v3 : Int32} {v4 : Int32} {v5 : Int32} {d' : Nat} {Q' : Int32 → Hp → Prop} (hdd : d' < d) (hC : CI d' 11 [.int v4, .int 0, .int v5] h Q') (kk : ∀ x h', Q' x h' → G X d 123 53 [some (.ref 0), some (.int v1), some (.int v2), some (.int v3), some (.int v4), none] [.int x] h') : G X d 123 45 [some (.ref 0), some (.int v1), some (.int v2), some (.int v3), some (.int v4), some (.int v5)] [] h := by
  refine g_iload d_123_45 rfl ?_
  refine g_iconst (v := 0) d_123_47 (by decide) ?_
  refine g_iload d_123_48 rfl ?_
  exact g_callSI (mj := 11) [.int v4, .int 0, .int v5] [] d_123_50 wd_143 mo_11 mc_11 mv_11 rfl rfl (Nat.le_of_ble_eq_true rfl)  hdd hC (fun x h' q => g_mask [true, true, true, true, true, false] (kk x h' q))

theorem k_123_53 {X : GX} {d : Nat} {h : Hp} {v1 : Int32} {v2 : Int32} {v3 : Int32} {v4 : Int32} {s0 : Int32} (kt : s0 = 0 → G X d 123 62 [none, none, none, none, none, none] [] h) (kf : ¬ s0 = 0 → G X d 123 56 [some (.ref 0), some (.int v1), some (.int v2), some (.int v3), some (.int v4), none] [] h) : G X d 123 53 [some (.ref 0), some (.int v1), some (.int v2), some (.int v3), some (.int v4), none] [.int s0] h := by
  exact g_if_eq (tgt := 62) d_123_53 (by decide) (fun q => g_mask [false, false, false, false, false, false] (kt q)) kf

theorem k_123_56 {X : GX} {d : Nat} {h : Hp} {v1 : Int32} {v2 : Int32} {v3 : Int32} {v4 : Int32} (kt : v3 ≤ v4 → G X d 123 64 [some (.ref 0), some (.int v1), some (.int v2), some (.int v3), some (.int v4), none] [] h) (kf : ¬ v3 ≤ v4 → G X d 123 62 [none, none, none, none, none, none] [] h) : G X d 123 56 [some (.ref 0), some (.int v1), some (.int v2), some (.int v3), some (.int v4), none] [] h := by
  refine g_iload d_123_56 rfl ?_
  refine g_iload_n d_123_58 rfl rfl ?_
  exact g_icmp_ge (tgt := 64) d_123_59 (by decide) kt (fun q => g_mask [false, false, false, false, false, false] (kf q))

theorem k_123_62 {X : GX} {d : Nat} {h : Hp} (hq : RtX X (some (.int ((-1)))) h) : G X d 123 62 [none, none, none, none, none, none] [] h := by
  refine g_iconst (v := (-1)) d_123_62 (by decide) ?_
  exact g_reti d_123_63 rfl hq

theorem k_123_64 {X : GX} {d : Nat} {h : Hp} {v1 : Int32} {v2 : Int32} {v3 : Int32} {v4 : Int32} {d' : Nat} {Q' : Int32 → Hp → Prop} (hdd : d' < d) (hC : CI d' 124 [.ref 16, .int v1, .int v2, .int v3, .int v4] h Q') (kk : ∀ x h', Q' x h' → G X d 123 76 [none, none, none, none, none, none] [.int x] h') : G X d 123 64 [some (.ref 0), some (.int v1), some (.int v2), some (.int v3), some (.int v4), none] [] h := by
  refine g_aload_n d_123_64 rfl rfl ?_
  refine g_getf (ci := 8) (k := 2) d_123_65 wd_131 (Nat.le_of_ble_eq_true rfl) rfl rfl ?_
  refine g_iload_n d_123_68 rfl rfl ?_
  refine g_iload_n d_123_69 rfl rfl ?_
  refine g_iload_n d_123_70 rfl rfl ?_
  refine g_iload d_123_71 rfl ?_
  exact g_callVI (mj := 124) 7 [.int v1, .int v2, .int v3, .int v4] [] d_123_73 wd_284 mo_124 mc_124 mv_124 rfl rfl rfl (Nat.le_of_ble_eq_true rfl) rfl hdd hC (fun x h' q => g_mask [false, false, false, false, false, false] (kk x h' q))

theorem k_123_76 {X : GX} {d : Nat} {h : Hp} {s0 : Int32} (hq : RtX X (some (.int s0)) h) : G X d 123 76 [none, none, none, none, none, none] [.int s0] h := by
  exact g_reti d_123_76 rfl hq

/-! 125 PlayedTruth.forget()I -/
theorem k_125_0 {X : GX} {d : Nat} {h : Hp} (hq : RtX X (some (.int (h 16 4))) (wr h 16 4 0)) : G X d 125 0 [some (.ref 0), none] [] h := by
  refine g_aload_n d_125_0 rfl rfl ?_
  refine g_getf (ci := 8) (k := 2) d_125_1 wd_131 (Nat.le_of_ble_eq_true rfl) rfl rfl ?_
  refine g_getf (ci := 7) (k := 4) d_125_4 wd_62 (Nat.le_of_ble_eq_true rfl) rfl rfl ?_
  refine g_istore_n d_125_7 rfl (Nat.le_of_ble_eq_true rfl) rfl ?_
  refine g_aload_n d_125_8 rfl rfl ?_
  refine g_getf (ci := 8) (k := 2) d_125_9 wd_131 (Nat.le_of_ble_eq_true rfl) rfl rfl ?_
  refine g_iconst (v := 0) d_125_12 (by decide) ?_
  refine g_putf (ci := 7) (k := 4) d_125_13 wd_62 (Nat.le_of_ble_eq_true rfl) (Nat.le_of_ble_eq_true rfl) rfl rfl (Or.inl ⟨rfl, rfl⟩) rfl ?_
  refine g_iload_n d_125_16 rfl rfl ?_
  exact g_reti d_125_17 rfl hq

/-! 126 PlayedTruth.lone(I)I -/
theorem k_126_0 {X : GX} {d : Nat} {h : Hp} {v1 : Int32} {d' : Nat} {Q' : Int32 → Hp → Prop} (hdd : d' < d) (hC : CI d' 11 [.int v1, .int 0, .int 3] h Q') (kk : ∀ x h', Q' x h' → G X d 126 6 [some (.ref 0), some (.int v1)] [.int x] h') : G X d 126 0 [some (.ref 0), some (.int v1)] [] h := by
  refine g_iload_n d_126_0 rfl rfl ?_
  refine g_iconst (v := 0) d_126_1 (by decide) ?_
  refine g_iconst (v := 3) d_126_2 (by decide) ?_
  exact g_callSI (mj := 11) [.int v1, .int 0, .int 3] [] d_126_3 wd_143 mo_11 mc_11 mv_11 rfl rfl (Nat.le_of_ble_eq_true rfl)  hdd hC kk

theorem k_126_6 {X : GX} {d : Nat} {h : Hp} {v1 : Int32} {s0 : Int32} (kt : ¬ s0 = 0 → G X d 126 11 [some (.ref 0), some (.int v1)] [] h) (kf : s0 = 0 → G X d 126 9 [none, none] [] h) : G X d 126 6 [some (.ref 0), some (.int v1)] [.int s0] h := by
  exact g_if_ne (tgt := 11) d_126_6 (by decide) kt (fun q => g_mask [false, false] (kf q))

theorem k_126_9 {X : GX} {d : Nat} {h : Hp} (hq : RtX X (some (.int ((-1)))) h) : G X d 126 9 [none, none] [] h := by
  refine g_iconst (v := (-1)) d_126_9 (by decide) ?_
  exact g_reti d_126_10 rfl hq

theorem k_126_11 {X : GX} {d : Nat} {h : Hp} {v1 : Int32} {d' : Nat} {Q' : Hp → Prop} (hdd : d' < d) (hC : CV d' 127 [.ref 16, .ref 1] h Q') (kk : ∀ h', Q' h' → G X d 126 22 [some (.ref 0), some (.int v1)] [] h') : G X d 126 11 [some (.ref 0), some (.int v1)] [] h := by
  refine g_aload_n d_126_11 rfl rfl ?_
  refine g_getf (ci := 8) (k := 2) d_126_12 wd_131 (Nat.le_of_ble_eq_true rfl) rfl rfl ?_
  refine g_aload_n d_126_15 rfl rfl ?_
  refine g_getf (ci := 8) (k := 0) d_126_16 wd_129 (Nat.le_of_ble_eq_true rfl) rfl rfl ?_
  exact g_callVV (mj := 127) 7 [.ref 1] [] d_126_19 wd_287 mo_127 mc_127 mv_127 rfl rfl rfl (Nat.le_of_ble_eq_true rfl) rfl hdd hC kk

theorem k_126_22 {X : GX} {d : Nat} {h : Hp} {v1 : Int32} (kt : ¬ v1 = 0 → G X d 126 34 [some (.ref 0), some (.int v1)] [] h) (kf : v1 = 0 → G X d 126 26 [some (.ref 0), none] [] h) : G X d 126 22 [some (.ref 0), some (.int v1)] [] h := by
  refine g_iload_n d_126_22 rfl rfl ?_
  exact g_if_ne (tgt := 34) d_126_23 (by decide) kt (fun q => g_mask [true, false] (kf q))

theorem k_126_26 {X : GX} {d : Nat} {h : Hp} (hq : RtX X (some (.int (h 16 5))) h) : G X d 126 26 [some (.ref 0), none] [] h := by
  refine g_aload_n d_126_26 rfl rfl ?_
  refine g_getf (ci := 8) (k := 2) d_126_27 wd_131 (Nat.le_of_ble_eq_true rfl) rfl rfl ?_
  refine g_getf (ci := 7) (k := 5) d_126_30 wd_64 (Nat.le_of_ble_eq_true rfl) rfl rfl ?_
  exact g_reti d_126_33 rfl hq

theorem k_126_34 {X : GX} {d : Nat} {h : Hp} {v1 : Int32} (kt : ¬ (h 16 5) = 0 → G X d 126 47 [some (.ref 0), some (.int v1)] [] h) (kf : (h 16 5) = 0 → G X d 126 44 [none, none] [] h) : G X d 126 34 [some (.ref 0), some (.int v1)] [] h := by
  refine g_aload_n d_126_34 rfl rfl ?_
  refine g_getf (ci := 8) (k := 2) d_126_35 wd_131 (Nat.le_of_ble_eq_true rfl) rfl rfl ?_
  refine g_getf (ci := 7) (k := 5) d_126_38 wd_64 (Nat.le_of_ble_eq_true rfl) rfl rfl ?_
  exact g_if_ne (tgt := 47) d_126_41 (by decide) kt (fun q => g_mask [false, false] (kf q))

theorem k_126_44 {X : GX} {d : Nat} {h : Hp} (hq : RtX X (some (.int ((-3)))) h) : G X d 126 44 [none, none] [] h := by
  refine g_bipush (v := (-3)) d_126_44 (by decide) ?_
  exact g_reti d_126_46 rfl hq

theorem k_126_47 {X : GX} {d : Nat} {h : Hp} {v1 : Int32} (kt : ¬ v1 = 1 → G X d 126 60 [some (.ref 0), some (.int v1)] [] h) (kf : v1 = 1 → G X d 126 52 [some (.ref 0), none] [] h) : G X d 126 47 [some (.ref 0), some (.int v1)] [] h := by
  refine g_iload_n d_126_47 rfl rfl ?_
  refine g_iconst (v := 1) d_126_48 (by decide) ?_
  exact g_icmp_ne (tgt := 60) d_126_49 (by decide) kt (fun q => g_mask [true, false] (kf q))

theorem k_126_52 {X : GX} {d : Nat} {h : Hp} (hq : RtX X (some (.int (h 16 6))) h) : G X d 126 52 [some (.ref 0), none] [] h := by
  refine g_aload_n d_126_52 rfl rfl ?_
  refine g_getf (ci := 8) (k := 2) d_126_53 wd_131 (Nat.le_of_ble_eq_true rfl) rfl rfl ?_
  refine g_getf (ci := 7) (k := 6) d_126_56 wd_66 (Nat.le_of_ble_eq_true rfl) rfl rfl ?_
  exact g_reti d_126_59 rfl hq

theorem k_126_60 {X : GX} {d : Nat} {h : Hp} {v1 : Int32} (kt : ¬ v1 = 2 → G X d 126 75 [some (.ref 0), none] [] h) (kf : v1 = 2 → G X d 126 65 [some (.ref 0), none] [] h) : G X d 126 60 [some (.ref 0), some (.int v1)] [] h := by
  refine g_iload_n d_126_60 rfl rfl ?_
  refine g_iconst (v := 2) d_126_61 (by decide) ?_
  exact g_icmp_ne (tgt := 75) d_126_62 (by decide) (fun q => g_mask [true, false] (kt q)) (fun q => g_mask [true, false] (kf q))

theorem k_126_65 {X : GX} {d : Nat} {h : Hp} (hq : RtX X (some (.int (h 16 7))) h) : G X d 126 65 [some (.ref 0), none] [] h := by
  refine g_aload_n d_126_65 rfl rfl ?_
  refine g_getf (ci := 8) (k := 2) d_126_66 wd_131 (Nat.le_of_ble_eq_true rfl) rfl rfl ?_
  refine g_getf (ci := 7) (k := 7) d_126_69 wd_68 (Nat.le_of_ble_eq_true rfl) rfl rfl ?_
  refine g_goto (tgt := 82) d_126_72 (by decide) ?_
  exact g_reti d_126_82 rfl hq

theorem k_126_75 {X : GX} {d : Nat} {h : Hp} (hq : RtX X (some (.int (h 16 8))) h) : G X d 126 75 [some (.ref 0), none] [] h := by
  refine g_aload_n d_126_75 rfl rfl ?_
  refine g_getf (ci := 8) (k := 2) d_126_76 wd_131 (Nat.le_of_ble_eq_true rfl) rfl rfl ?_
  refine g_getf (ci := 7) (k := 8) d_126_79 wd_70 (Nat.le_of_ble_eq_true rfl) rfl rfl ?_
  exact g_reti d_126_82 rfl hq

/-! 132 PlayedTruth.liar()I -/
theorem k_132_0 {X : GX} {d : Nat} {h : Hp} {d' : Nat} {Q' : Hp → Prop} (hdd : d' < d) (hC : CV d' 127 [.ref 16, .ref 1] h Q') (kk : ∀ h', Q' h' → G X d 132 11 [some (.ref 0)] [] h') : G X d 132 0 [some (.ref 0)] [] h := by
  refine g_aload_n d_132_0 rfl rfl ?_
  refine g_getf (ci := 8) (k := 2) d_132_1 wd_131 (Nat.le_of_ble_eq_true rfl) rfl rfl ?_
  refine g_aload_n d_132_4 rfl rfl ?_
  refine g_getf (ci := 8) (k := 0) d_132_5 wd_129 (Nat.le_of_ble_eq_true rfl) rfl rfl ?_
  exact g_callVV (mj := 127) 7 [.ref 1] [] d_132_8 wd_287 mo_127 mc_127 mv_127 rfl rfl rfl (Nat.le_of_ble_eq_true rfl) rfl hdd hC kk

theorem k_132_11 {X : GX} {d : Nat} {h : Hp} (kt : (h 16 5) ≤ 0 → G X d 132 26 [some (.ref 0)] [] h) (kf : ¬ (h 16 5) ≤ 0 → G X d 132 21 [none] [] h) : G X d 132 11 [some (.ref 0)] [] h := by
  refine g_aload_n d_132_11 rfl rfl ?_
  refine g_getf (ci := 8) (k := 2) d_132_12 wd_131 (Nat.le_of_ble_eq_true rfl) rfl rfl ?_
  refine g_getf (ci := 7) (k := 5) d_132_15 wd_64 (Nat.le_of_ble_eq_true rfl) rfl rfl ?_
  exact g_if_le (tgt := 26) d_132_18 (by decide) kt (fun q => g_mask [false] (kf q))

theorem k_132_21 {X : GX} {d : Nat} {h : Hp} (hq : RtX X (some (.int ((-3)))) h) : G X d 132 21 [none] [] h := by
  refine g_bipush (v := (-3)) d_132_21 (by decide) ?_
  refine g_goto (tgt := 36) d_132_23 (by decide) ?_
  exact g_reti d_132_36 rfl hq

theorem k_132_26 {X : GX} {d : Nat} {h : Hp} {d' : Nat} {Q' : Int32 → Hp → Prop} (hdd : d' < d) (hC : CI d' 118 [.int (h 16 9)] h Q') (kk : ∀ x h', Q' x h' → G X d 132 36 [none] [.int x] h') : G X d 132 26 [some (.ref 0)] [] h := by
  refine g_aload_n d_132_26 rfl rfl ?_
  refine g_getf (ci := 8) (k := 2) d_132_27 wd_131 (Nat.le_of_ble_eq_true rfl) rfl rfl ?_
  refine g_getf (ci := 7) (k := 9) d_132_30 wd_72 (Nat.le_of_ble_eq_true rfl) rfl rfl ?_
  exact g_callSI (mj := 118) [.int (h 16 9)] [] d_132_33 wd_278 mo_118 mc_118 mv_118 rfl rfl (Nat.le_of_ble_eq_true rfl)  hdd hC (fun x h' q => g_mask [false] (kk x h' q))

theorem k_132_36 {X : GX} {d : Nat} {h : Hp} {s0 : Int32} (hq : RtX X (some (.int s0)) h) : G X d 132 36 [none] [.int s0] h := by
  exact g_reti d_132_36 rfl hq

/-! 133 PlayedTruth.seed(I)I -/
theorem k_133_0 {X : GX} {d : Nat} {h : Hp} {v1 : Int32} (hq : RtX X (some (.int (h 13 5))) (wr h 13 5 v1)) : G X d 133 0 [some (.ref 0), some (.int v1), none] [] h := by
  refine g_aload_n d_133_0 rfl rfl ?_
  refine g_getf (ci := 8) (k := 1) d_133_1 wd_130 (Nat.le_of_ble_eq_true rfl) rfl rfl ?_
  refine g_getf (ci := 3) (k := 5) d_133_4 wd_55 (Nat.le_of_ble_eq_true rfl) rfl rfl ?_
  refine g_istore_n d_133_7 rfl (Nat.le_of_ble_eq_true rfl) rfl ?_
  refine g_aload_n d_133_8 rfl rfl ?_
  refine g_getf (ci := 8) (k := 1) d_133_9 wd_130 (Nat.le_of_ble_eq_true rfl) rfl rfl ?_
  refine g_iload_n d_133_12 rfl rfl ?_
  refine g_putf (ci := 3) (k := 5) d_133_13 wd_55 (Nat.le_of_ble_eq_true rfl) (Nat.le_of_ble_eq_true rfl) rfl rfl (Or.inl ⟨rfl, rfl⟩) rfl ?_
  refine g_iload_n d_133_16 rfl rfl ?_
  exact g_reti d_133_17 rfl hq

/-! 134 PlayedTruth.lot()I -/
theorem k_134_0 {X : GX} {d : Nat} {h : Hp} {d' : Nat} {Q' : Int32 → Hp → Prop} (hdd : d' < d) (hC : CI d' 38 [.ref 1, .ref 13] h Q') (kk : ∀ x h', Q' x h' → G X d 134 11 [some (.ref 0)] [.int x] h') : G X d 134 0 [some (.ref 0)] [] h := by
  refine g_aload_n d_134_0 rfl rfl ?_
  refine g_getf (ci := 8) (k := 0) d_134_1 wd_129 (Nat.le_of_ble_eq_true rfl) rfl rfl ?_
  refine g_aload_n d_134_4 rfl rfl ?_
  refine g_getf (ci := 8) (k := 1) d_134_5 wd_130 (Nat.le_of_ble_eq_true rfl) rfl rfl ?_
  exact g_callVI (mj := 38) 6 [.ref 13] [] d_134_8 wd_175 mo_38 mc_38 mv_38 rfl rfl rfl (Nat.le_of_ble_eq_true rfl) rfl hdd hC kk

theorem k_134_11 {X : GX} {d : Nat} {h : Hp} {s0 : Int32} (kt : s0 = 0 → G X d 134 19 [some (.ref 0)] [] h) (kf : ¬ s0 = 0 → G X d 134 14 [none] [] h) : G X d 134 11 [some (.ref 0)] [.int s0] h := by
  exact g_if_eq (tgt := 19) d_134_11 (by decide) kt (fun q => g_mask [false] (kf q))

theorem k_134_14 {X : GX} {d : Nat} {h : Hp} (hq : RtX X (some (.int ((-4)))) h) : G X d 134 14 [none] [] h := by
  refine g_bipush (v := (-4)) d_134_14 (by decide) ?_
  refine g_goto (tgt := 30) d_134_16 (by decide) ?_
  exact g_reti d_134_30 rfl hq

theorem k_134_19 {X : GX} {d : Nat} {h : Hp} {d' : Nat} {Q' : Int32 → Hp → Prop} (hdd : d' < d) (hC : CI d' 135 [.ref 1, .ref 13] h Q') (kk : ∀ x h', Q' x h' → G X d 134 30 [none] [.int x] h') : G X d 134 19 [some (.ref 0)] [] h := by
  refine g_aload_n d_134_19 rfl rfl ?_
  refine g_getf (ci := 8) (k := 0) d_134_20 wd_129 (Nat.le_of_ble_eq_true rfl) rfl rfl ?_
  refine g_aload_n d_134_23 rfl rfl ?_
  refine g_getf (ci := 8) (k := 1) d_134_24 wd_130 (Nat.le_of_ble_eq_true rfl) rfl rfl ?_
  exact g_callVI (mj := 135) 6 [.ref 13] [] d_134_27 wd_301 mo_135 mc_135 mv_135 rfl rfl rfl (Nat.le_of_ble_eq_true rfl) rfl hdd hC (fun x h' q => g_mask [false] (kk x h' q))

theorem k_134_30 {X : GX} {d : Nat} {h : Hp} {s0 : Int32} (hq : RtX X (some (.int s0)) h) : G X d 134 30 [none] [.int s0] h := by
  exact g_reti d_134_30 rfl hq

/-! 136 PlayedTruth.times(II)I -/
theorem k_136_0 {X : GX} {d : Nat} {h : Hp} {v1 : Int32} {v2 : Int32} {d' : Nat} {Q' : Int32 → Hp → Prop} (hdd : d' < d) (hC : CI d' 11 [.int v1, .int 1, .int 40] h Q') (kk : ∀ x h', Q' x h' → G X d 136 7 [some (.ref 0), some (.int v1), some (.int v2)] [.int x] h') : G X d 136 0 [some (.ref 0), some (.int v1), some (.int v2)] [] h := by
  refine g_iload_n d_136_0 rfl rfl ?_
  refine g_iconst (v := 1) d_136_1 (by decide) ?_
  refine g_bipush (v := 40) d_136_2 (by decide) ?_
  exact g_callSI (mj := 11) [.int v1, .int 1, .int 40] [] d_136_4 wd_143 mo_11 mc_11 mv_11 rfl rfl (Nat.le_of_ble_eq_true rfl)  hdd hC kk

theorem k_136_7 {X : GX} {d : Nat} {h : Hp} {v1 : Int32} {v2 : Int32} {s0 : Int32} (kt : s0 = 0 → G X d 136 21 [none, none, none] [] h) (kf : ¬ s0 = 0 → G X d 136 10 [some (.ref 0), some (.int v1), some (.int v2)] [] h) : G X d 136 7 [some (.ref 0), some (.int v1), some (.int v2)] [.int s0] h := by
  exact g_if_eq (tgt := 21) d_136_7 (by decide) (fun q => g_mask [false, false, false] (kt q)) kf

theorem k_136_10 {X : GX} {d : Nat} {h : Hp} {v1 : Int32} {v2 : Int32} {d' : Nat} {Q' : Int32 → Hp → Prop} (hdd : d' < d) (hC : CI d' 11 [.int v2, .int 0, .int 999] h Q') (kk : ∀ x h', Q' x h' → G X d 136 18 [some (.ref 0), some (.int v1), some (.int v2)] [.int x] h') : G X d 136 10 [some (.ref 0), some (.int v1), some (.int v2)] [] h := by
  refine g_iload_n d_136_10 rfl rfl ?_
  refine g_iconst (v := 0) d_136_11 (by decide) ?_
  refine g_sipush (v := 999) d_136_12 (by decide) ?_
  exact g_callSI (mj := 11) [.int v2, .int 0, .int 999] [] d_136_15 wd_143 mo_11 mc_11 mv_11 rfl rfl (Nat.le_of_ble_eq_true rfl)  hdd hC kk

theorem k_136_18 {X : GX} {d : Nat} {h : Hp} {v1 : Int32} {v2 : Int32} {s0 : Int32} (kt : ¬ s0 = 0 → G X d 136 23 [some (.ref 0), some (.int v1), some (.int v2)] [] h) (kf : s0 = 0 → G X d 136 21 [none, none, none] [] h) : G X d 136 18 [some (.ref 0), some (.int v1), some (.int v2)] [.int s0] h := by
  exact g_if_ne (tgt := 23) d_136_18 (by decide) kt (fun q => g_mask [false, false, false] (kf q))

theorem k_136_21 {X : GX} {d : Nat} {h : Hp} (hq : RtX X (some (.int ((-1)))) h) : G X d 136 21 [none, none, none] [] h := by
  refine g_iconst (v := (-1)) d_136_21 (by decide) ?_
  exact g_reti d_136_22 rfl hq

theorem k_136_23 {X : GX} {d : Nat} {h : Hp} {v1 : Int32} {v2 : Int32} {d' : Nat} {Q' : Int32 → Hp → Prop} (hdd : d' < d) (hC : CI d' 137 [.ref 31, .int v1, .int v2] h Q') (kk : ∀ x h', Q' x h' → G X d 136 32 [none, none, none] [.int x] h') : G X d 136 23 [some (.ref 0), some (.int v1), some (.int v2)] [] h := by
  refine g_aload_n d_136_23 rfl rfl ?_
  refine g_getf (ci := 8) (k := 4) d_136_24 wd_133 (Nat.le_of_ble_eq_true rfl) rfl rfl ?_
  refine g_iload_n d_136_27 rfl rfl ?_
  refine g_iload_n d_136_28 rfl rfl ?_
  exact g_callVI (mj := 137) 1 [.int v1, .int v2] [] d_136_29 wd_305 mo_137 mc_137 mv_137 rfl rfl rfl (Nat.le_of_ble_eq_true rfl) rfl hdd hC (fun x h' q => g_mask [false, false, false] (kk x h' q))

theorem k_136_32 {X : GX} {d : Nat} {h : Hp} {s0 : Int32} (hq : RtX X (some (.int s0)) h) : G X d 136 32 [none, none, none] [.int s0] h := by
  exact g_reti d_136_32 rfl hq

/-! 138 PlayedTruth.prove(I)I -/
theorem k_138_0 {X : GX} {d : Nat} {h : Hp} {v1 : Int32} {d' : Nat} {Q' : Int32 → Hp → Prop} (hdd : d' < d) (hC : CI d' 108 [.int v1] h Q') (kk : ∀ x h', Q' x h' → G X d 138 4 [some (.ref 0), some (.int v1)] [.int x] h') : G X d 138 0 [some (.ref 0), some (.int v1)] [] h := by
  refine g_iload_n d_138_0 rfl rfl ?_
  exact g_callSI (mj := 108) [.int v1] [] d_138_1 wd_265 mo_108 mc_108 mv_108 rfl rfl (Nat.le_of_ble_eq_true rfl)  hdd hC kk

theorem k_138_4 {X : GX} {d : Nat} {h : Hp} {v1 : Int32} {s0 : Int32} (kt : ¬ s0 = 0 → G X d 138 9 [some (.ref 0), some (.int v1)] [] h) (kf : s0 = 0 → G X d 138 7 [none, none] [] h) : G X d 138 4 [some (.ref 0), some (.int v1)] [.int s0] h := by
  exact g_if_ne (tgt := 9) d_138_4 (by decide) kt (fun q => g_mask [false, false] (kf q))

theorem k_138_7 {X : GX} {d : Nat} {h : Hp} (hq : RtX X (some (.int ((-1)))) h) : G X d 138 7 [none, none] [] h := by
  refine g_iconst (v := (-1)) d_138_7 (by decide) ?_
  exact g_reti d_138_8 rfl hq

theorem k_138_9 {X : GX} {d : Nat} {h : Hp} {v1 : Int32} {d' : Nat} {Q' : Hp → Prop} (hdd : d' < d) (hC : CV d' 109 [.ref 31, .int v1, .int 0] h Q') (kk : ∀ h', Q' h' → G X d 138 18 [some (.ref 0), none] [] h') : G X d 138 9 [some (.ref 0), some (.int v1)] [] h := by
  refine g_aload_n d_138_9 rfl rfl ?_
  refine g_getf (ci := 8) (k := 4) d_138_10 wd_133 (Nat.le_of_ble_eq_true rfl) rfl rfl ?_
  refine g_iload_n d_138_13 rfl rfl ?_
  refine g_iconst (v := 0) d_138_14 (by decide) ?_
  exact g_callVV (mj := 109) 1 [.int v1, .int 0] [] d_138_15 wd_266 mo_109 mc_109 mv_109 rfl rfl rfl (Nat.le_of_ble_eq_true rfl) rfl hdd hC (fun h' q => g_mask [true, false] (kk h' q))

theorem k_138_18 {X : GX} {d : Nat} {h : Hp} {d' : Nat} {Q' : Hp → Prop} (hdd : d' < d) (hC : CV d' 139 [.ref 31, .ref 63] h Q') (kk : ∀ h', Q' h' → G X d 138 29 [some (.ref 0), none] [] h') : G X d 138 18 [some (.ref 0), none] [] h := by
  refine g_aload_n d_138_18 rfl rfl ?_
  refine g_getf (ci := 8) (k := 4) d_138_19 wd_133 (Nat.le_of_ble_eq_true rfl) rfl rfl ?_
  refine g_aload_n d_138_22 rfl rfl ?_
  refine g_getf (ci := 8) (k := 7) d_138_23 wd_136 (Nat.le_of_ble_eq_true rfl) rfl rfl ?_
  exact g_callVV (mj := 139) 1 [.ref 63] [] d_138_26 wd_308 mo_139 mc_139 mv_139 rfl rfl rfl (Nat.le_of_ble_eq_true rfl) rfl hdd hC kk

theorem k_138_29 {X : GX} {d : Nat} {h : Hp} (hq : RtX X (some (.int ((wr h 0 8 (h 31 5)) 0 8))) (wr h 0 8 (h 31 5))) : G X d 138 29 [some (.ref 0), none] [] h := by
  refine g_aload_n d_138_29 rfl rfl ?_
  refine g_aload_n d_138_30 rfl rfl ?_
  refine g_getf (ci := 8) (k := 4) d_138_31 wd_133 (Nat.le_of_ble_eq_true rfl) rfl rfl ?_
  refine g_getf (ci := 1) (k := 5) d_138_34 wd_94 (Nat.le_of_ble_eq_true rfl) rfl rfl ?_
  refine g_putf (ci := 8) (k := 8) d_138_37 wd_137 (Nat.le_of_ble_eq_true rfl) (Nat.le_of_ble_eq_true rfl) rfl rfl (Or.inl ⟨rfl, rfl⟩) rfl ?_
  refine g_aload_n d_138_40 rfl rfl ?_
  refine g_getf (ci := 8) (k := 8) d_138_41 wd_137 (Nat.le_of_ble_eq_true rfl) rfl rfl ?_
  exact g_reti d_138_44 rfl hq

/-! 140 PlayedTruth.row(II)I -/
theorem k_140_0 {X : GX} {d : Nat} {h : Hp} {v1 : Int32} {v2 : Int32} {d' : Nat} {Q' : Int32 → Hp → Prop} (hdd : d' < d) (hC : CI d' 141 [.ref 0, .int v1, .int v2] h Q') (kk : ∀ x h', Q' x h' → G X d 140 6 [some (.ref 0), some (.int v1), some (.int v2)] [.int x] h') : G X d 140 0 [some (.ref 0), some (.int v1), some (.int v2)] [] h := by
  refine g_aload_n d_140_0 rfl rfl ?_
  refine g_iload_n d_140_1 rfl rfl ?_
  refine g_iload_n d_140_2 rfl rfl ?_
  exact g_callVI (mj := 141) 8 [.int v1, .int v2] [] d_140_3 wd_310 mo_141 mc_141 mv_141 rfl rfl rfl (Nat.le_of_ble_eq_true rfl) rfl hdd hC kk

theorem k_140_6 {X : GX} {d : Nat} {h : Hp} {v1 : Int32} {v2 : Int32} {s0 : Int32} (kt : s0 = 0 → G X d 140 22 [none, none, none] [] h) (kf : ¬ s0 = 0 → G X d 140 9 [some (.ref 0), some (.int v1), some (.int v2)] [] h) : G X d 140 6 [some (.ref 0), some (.int v1), some (.int v2)] [.int s0] h := by
  exact g_if_eq (tgt := 22) d_140_6 (by decide) (fun q => g_mask [false, false, false] (kt q)) kf

theorem k_140_9 {X : GX} {d : Nat} {h : Hp} {v1 : Int32} {v2 : Int32} (b0 : IA 63 ((v1 * 3) + v2)) (hq : RtX X (some (.int (h 63 (Int32.toNatClampNeg ((v1 * 3) + v2))))) h) : G X d 140 9 [some (.ref 0), some (.int v1), some (.int v2)] [] h := by
  refine g_aload_n d_140_9 rfl rfl ?_
  refine g_getf (ci := 8) (k := 7) d_140_10 wd_136 (Nat.le_of_ble_eq_true rfl) rfl rfl ?_
  refine g_iload_n d_140_13 rfl rfl ?_
  refine g_iconst (v := 3) d_140_14 (by decide) ?_
  refine g_imul d_140_15 ?_
  refine g_iload_n d_140_16 rfl rfl ?_
  refine g_iadd d_140_17 ?_
  refine g_iald d_140_18 b0 ?_
  refine g_goto (tgt := 24) d_140_19 (by decide) ?_
  exact g_reti d_140_24 rfl hq

theorem k_140_22 {X : GX} {d : Nat} {h : Hp} (hq : RtX X (some (.int ((-9)))) h) : G X d 140 22 [none, none, none] [] h := by
  refine g_bipush (v := (-9)) d_140_22 (by decide) ?_
  exact g_reti d_140_24 rfl hq

/-! 141 PlayedTruth.isInRow(II)Z -/
theorem k_141_0 {X : GX} {d : Nat} {h : Hp} {v1 : Int32} {v2 : Int32} {d' : Nat} {Q' : Int32 → Hp → Prop} (hdd : d' < d) (hC : CI d' 11 [.int v1, .int 0, .int ((h 0 8) - 1)] h Q') (kk : ∀ x h', Q' x h' → G X d 141 11 [none, none, some (.int v2)] [.int x] h') : G X d 141 0 [some (.ref 0), some (.int v1), some (.int v2)] [] h := by
  refine g_iload_n d_141_0 rfl rfl ?_
  refine g_iconst (v := 0) d_141_1 (by decide) ?_
  refine g_aload_n d_141_2 rfl rfl ?_
  refine g_getf (ci := 8) (k := 8) d_141_3 wd_137 (Nat.le_of_ble_eq_true rfl) rfl rfl ?_
  refine g_iconst (v := 1) d_141_6 (by decide) ?_
  refine g_isub d_141_7 ?_
  exact g_callSI (mj := 11) [.int v1, .int 0, .int ((h 0 8) - 1)] [] d_141_8 wd_143 mo_11 mc_11 mv_11 rfl rfl (Nat.le_of_ble_eq_true rfl)  hdd hC (fun x h' q => g_mask [false, false, true] (kk x h' q))

theorem k_141_11 {X : GX} {d : Nat} {h : Hp} {v2 : Int32} {s0 : Int32} (kt : s0 = 0 → G X d 141 27 [none, none, none] [] h) (kf : ¬ s0 = 0 → G X d 141 14 [none, none, some (.int v2)] [] h) : G X d 141 11 [none, none, some (.int v2)] [.int s0] h := by
  exact g_if_eq (tgt := 27) d_141_11 (by decide) (fun q => g_mask [false, false, false] (kt q)) kf

theorem k_141_14 {X : GX} {d : Nat} {h : Hp} {v2 : Int32} {d' : Nat} {Q' : Int32 → Hp → Prop} (hdd : d' < d) (hC : CI d' 11 [.int v2, .int 0, .int 2] h Q') (kk : ∀ x h', Q' x h' → G X d 141 20 [none, none, none] [.int x] h') : G X d 141 14 [none, none, some (.int v2)] [] h := by
  refine g_iload_n d_141_14 rfl rfl ?_
  refine g_iconst (v := 0) d_141_15 (by decide) ?_
  refine g_iconst (v := 2) d_141_16 (by decide) ?_
  exact g_callSI (mj := 11) [.int v2, .int 0, .int 2] [] d_141_17 wd_143 mo_11 mc_11 mv_11 rfl rfl (Nat.le_of_ble_eq_true rfl)  hdd hC (fun x h' q => g_mask [false, false, false] (kk x h' q))

theorem k_141_20 {X : GX} {d : Nat} {h : Hp} {s0 : Int32} (kt : s0 = 0 → G X d 141 27 [none, none, none] [] h) (kf : ¬ s0 = 0 → G X d 141 23 [none, none, none] [] h) : G X d 141 20 [none, none, none] [.int s0] h := by
  exact g_if_eq (tgt := 27) d_141_20 (by decide) kt kf

theorem k_141_23 {X : GX} {d : Nat} {h : Hp} (hq : RtX X (some (.int 1)) h) : G X d 141 23 [none, none, none] [] h := by
  refine g_iconst (v := 1) d_141_23 (by decide) ?_
  refine g_goto (tgt := 28) d_141_24 (by decide) ?_
  exact g_retz d_141_28 rfl z01_1 hq

theorem k_141_27 {X : GX} {d : Nat} {h : Hp} (hq : RtX X (some (.int 0)) h) : G X d 141 27 [none, none, none] [] h := by
  refine g_iconst (v := 0) d_141_27 (by decide) ?_
  exact g_retz d_141_28 rfl z01_0 hq

/-! 142 PlayedTruth.alterRow(III)I -/
theorem k_142_0 {X : GX} {d : Nat} {h : Hp} {v1 : Int32} {v2 : Int32} {v3 : Int32} {d' : Nat} {Q' : Int32 → Hp → Prop} (hdd : d' < d) (hC : CI d' 141 [.ref 0, .int v1, .int v2] h Q') (kk : ∀ x h', Q' x h' → G X d 142 6 [some (.ref 0), some (.int v1), some (.int v2), some (.int v3)] [.int x] h') : G X d 142 0 [some (.ref 0), some (.int v1), some (.int v2), some (.int v3)] [] h := by
  refine g_aload_n d_142_0 rfl rfl ?_
  refine g_iload_n d_142_1 rfl rfl ?_
  refine g_iload_n d_142_2 rfl rfl ?_
  exact g_callVI (mj := 141) 8 [.int v1, .int v2] [] d_142_3 wd_310 mo_141 mc_141 mv_141 rfl rfl rfl (Nat.le_of_ble_eq_true rfl) rfl hdd hC kk

theorem k_142_6 {X : GX} {d : Nat} {h : Hp} {v1 : Int32} {v2 : Int32} {v3 : Int32} {s0 : Int32} (kt : s0 = 0 → G X d 142 25 [none, none, none, none] [] h) (kf : ¬ s0 = 0 → G X d 142 9 [some (.ref 0), some (.int v1), some (.int v2), some (.int v3)] [] h) : G X d 142 6 [some (.ref 0), some (.int v1), some (.int v2), some (.int v3)] [.int s0] h := by
  exact g_if_eq (tgt := 25) d_142_6 (by decide) (fun q => g_mask [false, false, false, false] (kt q)) kf

theorem k_142_9 {X : GX} {d : Nat} {h : Hp} {v1 : Int32} {v2 : Int32} {v3 : Int32} {d' : Nat} {Q' : Int32 → Hp → Prop} (hdd : d' < d) (hC : CI d' 29 [.ref 63, .int ((v1 * 3) + v2), .int v3] h Q') (kk : ∀ x h', Q' x h' → G X d 142 22 [none, none, none, none] [.int x] h') : G X d 142 9 [some (.ref 0), some (.int v1), some (.int v2), some (.int v3)] [] h := by
  refine g_aload_n d_142_9 rfl rfl ?_
  refine g_getf (ci := 8) (k := 7) d_142_10 wd_136 (Nat.le_of_ble_eq_true rfl) rfl rfl ?_
  refine g_iload_n d_142_13 rfl rfl ?_
  refine g_iconst (v := 3) d_142_14 (by decide) ?_
  refine g_imul d_142_15 ?_
  refine g_iload_n d_142_16 rfl rfl ?_
  refine g_iadd d_142_17 ?_
  refine g_iload_n d_142_18 rfl rfl ?_
  exact g_callSI (mj := 29) [.ref 63, .int ((v1 * 3) + v2), .int v3] [] d_142_19 wd_166 mo_29 mc_29 mv_29 rfl rfl (Nat.le_of_ble_eq_true rfl)  hdd hC (fun x h' q => g_mask [false, false, false, false] (kk x h' q))

theorem k_142_22 {X : GX} {d : Nat} {h : Hp} {s0 : Int32} (hq : RtX X (some (.int s0)) h) : G X d 142 22 [none, none, none, none] [.int s0] h := by
  refine g_goto (tgt := 27) d_142_22 (by decide) ?_
  exact g_reti d_142_27 rfl hq

theorem k_142_25 {X : GX} {d : Nat} {h : Hp} (hq : RtX X (some (.int ((-9)))) h) : G X d 142 25 [none, none, none, none] [] h := by
  refine g_bipush (v := (-9)) d_142_25 (by decide) ?_
  exact g_reti d_142_27 rfl hq

/-! 143 PlayedTruth.judge()I -/
theorem k_143_0 {X : GX} {d : Nat} {h : Hp} {d' : Nat} {Q' : Int32 → Hp → Prop} (hdd : d' < d) (hC : CI d' 144 [.ref 31, .ref 63, .int (h 0 8)] h Q') (kk : ∀ x h', Q' x h' → G X d 143 15 [none] [.int x] h') : G X d 143 0 [some (.ref 0)] [] h := by
  refine g_aload_n d_143_0 rfl rfl ?_
  refine g_getf (ci := 8) (k := 4) d_143_1 wd_133 (Nat.le_of_ble_eq_true rfl) rfl rfl ?_
  refine g_aload_n d_143_4 rfl rfl ?_
  refine g_getf (ci := 8) (k := 7) d_143_5 wd_136 (Nat.le_of_ble_eq_true rfl) rfl rfl ?_
  refine g_aload_n d_143_8 rfl rfl ?_
  refine g_getf (ci := 8) (k := 8) d_143_9 wd_137 (Nat.le_of_ble_eq_true rfl) rfl rfl ?_
  exact g_callVI (mj := 144) 1 [.ref 63, .int (h 0 8)] [] d_143_12 wd_313 mo_144 mc_144 mv_144 rfl rfl rfl (Nat.le_of_ble_eq_true rfl) rfl hdd hC (fun x h' q => g_mask [false] (kk x h' q))

theorem k_143_15 {X : GX} {d : Nat} {h : Hp} {s0 : Int32} (hq : RtX X (some (.int s0)) h) : G X d 143 15 [none] [.int s0] h := by
  exact g_reti d_143_15 rfl hq

/-! 146 PlayedTruth.sheet(III)I -/
theorem k_146_0 {X : GX} {d : Nat} {h : Hp} {v1 : Int32} {v2 : Int32} {v3 : Int32} {d' : Nat} {Q' : Int32 → Hp → Prop} (hdd : d' < d) (hC : CI d' 147 [.int v1] h Q') (kk : ∀ x h', Q' x h' → G X d 146 4 [some (.ref 0), some (.int v1), some (.int v2), some (.int v3)] [.int x] h') : G X d 146 0 [some (.ref 0), some (.int v1), some (.int v2), some (.int v3)] [] h := by
  refine g_iload_n d_146_0 rfl rfl ?_
  exact g_callSI (mj := 147) [.int v1] [] d_146_1 wd_316 mo_147 mc_147 mv_147 rfl rfl (Nat.le_of_ble_eq_true rfl)  hdd hC kk

theorem k_146_4 {X : GX} {d : Nat} {h : Hp} {v1 : Int32} {v2 : Int32} {v3 : Int32} {s0 : Int32} (kt : s0 = 0 → G X d 146 16 [none, none, none, none] [] h) (kf : ¬ s0 = 0 → G X d 146 7 [some (.ref 0), some (.int v1), some (.int v2), some (.int v3)] [] h) : G X d 146 4 [some (.ref 0), some (.int v1), some (.int v2), some (.int v3)] [.int s0] h := by
  exact g_if_eq (tgt := 16) d_146_4 (by decide) (fun q => g_mask [false, false, false, false] (kt q)) kf

theorem k_146_7 {X : GX} {d : Nat} {h : Hp} {v1 : Int32} {v2 : Int32} {v3 : Int32} {d' : Nat} {Q' : Int32 → Hp → Prop} (hdd : d' < d) (hC : CI d' 11 [.int v2, .int ((-1)), .int 4] h Q') (kk : ∀ x h', Q' x h' → G X d 146 13 [some (.ref 0), some (.int v1), some (.int v2), some (.int v3)] [.int x] h') : G X d 146 7 [some (.ref 0), some (.int v1), some (.int v2), some (.int v3)] [] h := by
  refine g_iload_n d_146_7 rfl rfl ?_
  refine g_iconst (v := (-1)) d_146_8 (by decide) ?_
  refine g_iconst (v := 4) d_146_9 (by decide) ?_
  exact g_callSI (mj := 11) [.int v2, .int ((-1)), .int 4] [] d_146_10 wd_143 mo_11 mc_11 mv_11 rfl rfl (Nat.le_of_ble_eq_true rfl)  hdd hC kk

theorem k_146_13 {X : GX} {d : Nat} {h : Hp} {v1 : Int32} {v2 : Int32} {v3 : Int32} {s0 : Int32} (kt : ¬ s0 = 0 → G X d 146 18 [some (.ref 0), some (.int v1), some (.int v2), some (.int v3)] [] h) (kf : s0 = 0 → G X d 146 16 [none, none, none, none] [] h) : G X d 146 13 [some (.ref 0), some (.int v1), some (.int v2), some (.int v3)] [.int s0] h := by
  exact g_if_ne (tgt := 18) d_146_13 (by decide) kt (fun q => g_mask [false, false, false, false] (kf q))

theorem k_146_16 {X : GX} {d : Nat} {h : Hp} (hq : RtX X (some (.int ((-1)))) h) : G X d 146 16 [none, none, none, none] [] h := by
  refine g_iconst (v := (-1)) d_146_16 (by decide) ?_
  exact g_reti d_146_17 rfl hq

theorem k_146_18 {X : GX} {d : Nat} {h : Hp} {v1 : Int32} {v2 : Int32} {v3 : Int32} (kt : ¬ v2 = ((-1)) → G X d 146 34 [some (.ref 0), some (.int v1), some (.int v2), some (.int v3)] [] h) (kf : v2 = ((-1)) → G X d 146 23 [some (.ref 0), some (.int v1), none, none] [] h) : G X d 146 18 [some (.ref 0), some (.int v1), some (.int v2), some (.int v3)] [] h := by
  refine g_iload_n d_146_18 rfl rfl ?_
  refine g_iconst (v := (-1)) d_146_19 (by decide) ?_
  exact g_icmp_ne (tgt := 34) d_146_20 (by decide) kt (fun q => g_mask [true, true, false, false] (kf q))

theorem k_146_23 {X : GX} {d : Nat} {h : Hp} {v1 : Int32} {d' : Nat} {Q' : Int32 → Hp → Prop} (hdd : d' < d) (hC : CI d' 148 [.ref 50, .int v1, .int ((-1)), .int 0] h Q') (kk : ∀ x h', Q' x h' → G X d 146 33 [none, none, none, none] [.int x] h') : G X d 146 23 [some (.ref 0), some (.int v1), none, none] [] h := by
  refine g_aload_n d_146_23 rfl rfl ?_
  refine g_getf (ci := 8) (k := 5) d_146_24 wd_134 (Nat.le_of_ble_eq_true rfl) rfl rfl ?_
  refine g_iload_n d_146_27 rfl rfl ?_
  refine g_iconst (v := (-1)) d_146_28 (by decide) ?_
  refine g_iconst (v := 0) d_146_29 (by decide) ?_
  exact g_callVI (mj := 148) 2 [.int v1, .int ((-1)), .int 0] [] d_146_30 wd_317 mo_148 mc_148 mv_148 rfl rfl rfl (Nat.le_of_ble_eq_true rfl) rfl hdd hC (fun x h' q => g_mask [false, false, false, false] (kk x h' q))

theorem k_146_33 {X : GX} {d : Nat} {h : Hp} {s0 : Int32} (hq : RtX X (some (.int s0)) h) : G X d 146 33 [none, none, none, none] [.int s0] h := by
  exact g_reti d_146_33 rfl hq

theorem k_146_34 {X : GX} {d : Nat} {h : Hp} {v1 : Int32} {v2 : Int32} {v3 : Int32} (kt : v3 ≤ 40 → G X d 146 42 [some (.ref 0), some (.int v1), some (.int v2), some (.int v3)] [] h) (kf : ¬ v3 ≤ 40 → G X d 146 40 [none, none, none, none] [] h) : G X d 146 34 [some (.ref 0), some (.int v1), some (.int v2), some (.int v3)] [] h := by
  refine g_iload_n d_146_34 rfl rfl ?_
  refine g_bipush (v := 40) d_146_35 (by decide) ?_
  exact g_icmp_le (tgt := 42) d_146_37 (by decide) kt (fun q => g_mask [false, false, false, false] (kf q))

theorem k_146_40 {X : GX} {d : Nat} {h : Hp} (hq : RtX X (some (.int ((-1)))) h) : G X d 146 40 [none, none, none, none] [] h := by
  refine g_iconst (v := (-1)) d_146_40 (by decide) ?_
  exact g_reti d_146_41 rfl hq

theorem k_146_42 {X : GX} {d : Nat} {h : Hp} {v1 : Int32} {v2 : Int32} {v3 : Int32} (kt : 0 ≤ v3 → G X d 146 49 [some (.ref 0), some (.int v1), some (.int v2), some (.int v3)] [] h) (kf : ¬ 0 ≤ v3 → G X d 146 46 [none, none, none, none] [] h) : G X d 146 42 [some (.ref 0), some (.int v1), some (.int v2), some (.int v3)] [] h := by
  refine g_iload_n d_146_42 rfl rfl ?_
  exact g_if_ge (tgt := 49) d_146_43 (by decide) kt (fun q => g_mask [false, false, false, false] (kf q))

theorem k_146_46 {X : GX} {d : Nat} {h : Hp} (hq : RtX X (some (.int ((-14)))) h) : G X d 146 46 [none, none, none, none] [] h := by
  refine g_bipush (v := (-14)) d_146_46 (by decide) ?_
  exact g_reti d_146_48 rfl hq

theorem k_146_49 {X : GX} {d : Nat} {h : Hp} {v1 : Int32} {v2 : Int32} {v3 : Int32} {d' : Nat} {Q' : Int32 → Hp → Prop} (hdd : d' < d) (hC : CI d' 148 [.ref 50, .int v1, .int v2, .int v3] h Q') (kk : ∀ x h', Q' x h' → G X d 146 59 [none, none, none, none] [.int x] h') : G X d 146 49 [some (.ref 0), some (.int v1), some (.int v2), some (.int v3)] [] h := by
  refine g_aload_n d_146_49 rfl rfl ?_
  refine g_getf (ci := 8) (k := 5) d_146_50 wd_134 (Nat.le_of_ble_eq_true rfl) rfl rfl ?_
  refine g_iload_n d_146_53 rfl rfl ?_
  refine g_iload_n d_146_54 rfl rfl ?_
  refine g_iload_n d_146_55 rfl rfl ?_
  exact g_callVI (mj := 148) 2 [.int v1, .int v2, .int v3] [] d_146_56 wd_317 mo_148 mc_148 mv_148 rfl rfl rfl (Nat.le_of_ble_eq_true rfl) rfl hdd hC (fun x h' q => g_mask [false, false, false, false] (kk x h' q))

theorem k_146_59 {X : GX} {d : Nat} {h : Hp} {s0 : Int32} (hq : RtX X (some (.int s0)) h) : G X d 146 59 [none, none, none, none] [.int s0] h := by
  exact g_reti d_146_59 rfl hq

/-! 149 PlayedTruth.write(III)I -/
theorem k_149_0 {X : GX} {d : Nat} {h : Hp} {v1 : Int32} {v2 : Int32} {v3 : Int32} {d' : Nat} {Q' : Int32 → Hp → Prop} (hdd : d' < d) (hC : CI d' 147 [.int v1] h Q') (kk : ∀ x h', Q' x h' → G X d 149 4 [some (.ref 0), some (.int v1), some (.int v2), some (.int v3)] [.int x] h') : G X d 149 0 [some (.ref 0), some (.int v1), some (.int v2), some (.int v3)] [] h := by
  refine g_iload_n d_149_0 rfl rfl ?_
  exact g_callSI (mj := 147) [.int v1] [] d_149_1 wd_316 mo_147 mc_147 mv_147 rfl rfl (Nat.le_of_ble_eq_true rfl)  hdd hC kk

theorem k_149_4 {X : GX} {d : Nat} {h : Hp} {v1 : Int32} {v2 : Int32} {v3 : Int32} {s0 : Int32} (kt : ¬ s0 = 0 → G X d 149 9 [some (.ref 0), some (.int v1), some (.int v2), some (.int v3)] [] h) (kf : s0 = 0 → G X d 149 7 [none, none, none, none] [] h) : G X d 149 4 [some (.ref 0), some (.int v1), some (.int v2), some (.int v3)] [.int s0] h := by
  exact g_if_ne (tgt := 9) d_149_4 (by decide) kt (fun q => g_mask [false, false, false, false] (kf q))

theorem k_149_7 {X : GX} {d : Nat} {h : Hp} (hq : RtX X (some (.int ((-1)))) h) : G X d 149 7 [none, none, none, none] [] h := by
  refine g_iconst (v := (-1)) d_149_7 (by decide) ?_
  exact g_reti d_149_8 rfl hq

theorem k_149_9 {X : GX} {d : Nat} {h : Hp} {v1 : Int32} {v2 : Int32} {v3 : Int32} (b0 : IA 51 v1) (kt : ¬ (h 51 (Int32.toNatClampNeg v1)) = ((-1)) → G X d 149 25 [some (.ref 0), some (.int v1), some (.int v2), some (.int v3)] [] h) (kf : (h 51 (Int32.toNatClampNeg v1)) = ((-1)) → G X d 149 22 [none, none, none, none] [] h) : G X d 149 9 [some (.ref 0), some (.int v1), some (.int v2), some (.int v3)] [] h := by
  refine g_aload_n d_149_9 rfl rfl ?_
  refine g_getf (ci := 8) (k := 5) d_149_10 wd_134 (Nat.le_of_ble_eq_true rfl) rfl rfl ?_
  refine g_getf (ci := 2) (k := 0) d_149_13 wd_109 (Nat.le_of_ble_eq_true rfl) rfl rfl ?_
  refine g_iload_n d_149_16 rfl rfl ?_
  refine g_iald d_149_17 b0 ?_
  refine g_iconst (v := (-1)) d_149_18 (by decide) ?_
  exact g_icmp_ne (tgt := 25) d_149_19 (by decide) kt (fun q => g_mask [false, false, false, false] (kf q))

theorem k_149_22 {X : GX} {d : Nat} {h : Hp} (hq : RtX X (some (.int ((-11)))) h) : G X d 149 22 [none, none, none, none] [] h := by
  refine g_bipush (v := (-11)) d_149_22 (by decide) ?_
  exact g_reti d_149_24 rfl hq

theorem k_149_25 {X : GX} {d : Nat} {h : Hp} {v1 : Int32} {v2 : Int32} {v3 : Int32} {d' : Nat} {Q' : Int32 → Hp → Prop} (hdd : d' < d) (hC : CI d' 150 [.ref 50, .int v1, .int v2] h Q') (kk : ∀ x h', Q' x h' → G X d 149 34 [some (.ref 0), some (.int v1), some (.int v2), some (.int v3)] [.int x] h') : G X d 149 25 [some (.ref 0), some (.int v1), some (.int v2), some (.int v3)] [] h := by
  refine g_aload_n d_149_25 rfl rfl ?_
  refine g_getf (ci := 8) (k := 5) d_149_26 wd_134 (Nat.le_of_ble_eq_true rfl) rfl rfl ?_
  refine g_iload_n d_149_29 rfl rfl ?_
  refine g_iload_n d_149_30 rfl rfl ?_
  exact g_callVI (mj := 150) 2 [.int v1, .int v2] [] d_149_31 wd_319 mo_150 mc_150 mv_150 rfl rfl rfl (Nat.le_of_ble_eq_true rfl) rfl hdd hC kk

theorem k_149_34 {X : GX} {d : Nat} {h : Hp} {v1 : Int32} {v2 : Int32} {v3 : Int32} {s0 : Int32} (kt : ¬ s0 = 0 → G X d 149 40 [some (.ref 0), some (.int v1), some (.int v2), some (.int v3)] [] h) (kf : s0 = 0 → G X d 149 37 [none, none, none, none] [] h) : G X d 149 34 [some (.ref 0), some (.int v1), some (.int v2), some (.int v3)] [.int s0] h := by
  exact g_if_ne (tgt := 40) d_149_34 (by decide) kt (fun q => g_mask [false, false, false, false] (kf q))

theorem k_149_37 {X : GX} {d : Nat} {h : Hp} (hq : RtX X (some (.int ((-12)))) h) : G X d 149 37 [none, none, none, none] [] h := by
  refine g_bipush (v := (-12)) d_149_37 (by decide) ?_
  exact g_reti d_149_39 rfl hq

theorem k_149_40 {X : GX} {d : Nat} {h : Hp} {v1 : Int32} {v2 : Int32} {v3 : Int32} {d' : Nat} {Q' : Int32 → Hp → Prop} (b0 : vp_in v1 4) (b1 : IA 51 v1) (hdd : d' < d) (hC : CI d' 151 [.int (h 51 (Int32.toNatClampNeg v1)), .int v3] h Q') (kk : ∀ x h', Q' x h' → G X d 149 63 [none, none, none, none] [.int x, .int v2, .ref (54 + Int32.toNatClampNeg v1)] h') : G X d 149 40 [some (.ref 0), some (.int v1), some (.int v2), some (.int v3)] [] h := by
  refine g_aload_n d_149_40 rfl rfl ?_
  refine g_getf (ci := 8) (k := 5) d_149_41 wd_134 (Nat.le_of_ble_eq_true rfl) rfl rfl ?_
  refine g_getf (ci := 2) (k := 2) d_149_44 wd_113 (Nat.le_of_ble_eq_true rfl) rfl rfl ?_
  refine g_iload_n d_149_47 rfl rfl ?_
  refine g_aald (tt := 1) d_149_48 (by decide) rfl b0 ?_
  refine g_iload_n d_149_49 rfl rfl ?_
  refine g_aload_n d_149_50 rfl rfl ?_
  refine g_getf (ci := 8) (k := 5) d_149_51 wd_134 (Nat.le_of_ble_eq_true rfl) rfl rfl ?_
  refine g_getf (ci := 2) (k := 0) d_149_54 wd_109 (Nat.le_of_ble_eq_true rfl) rfl rfl ?_
  refine g_iload_n d_149_57 rfl rfl ?_
  refine g_iald d_149_58 b1 ?_
  refine g_iload_n d_149_59 rfl rfl ?_
  exact g_callSI (mj := 151) [.int (h 51 (Int32.toNatClampNeg v1)), .int v3] [.int v2, .ref (54 + Int32.toNatClampNeg v1)] d_149_60 wd_320 mo_151 mc_151 mv_151 rfl rfl (Nat.le_of_ble_eq_true rfl)  hdd hC (fun x h' q => g_mask [false, false, false, false] (kk x h' q))

theorem k_149_63 {X : GX} {d : Nat} {h : Hp} {s0 : Int32} {s1 : Int32} {s2 : Nat} (b0 : IA s2 s1) (hq : RtX X (some (.int 1)) (wr h s2 (Int32.toNatClampNeg s1) s0)) : G X d 149 63 [none, none, none, none] [.int s0, .int s1, .ref s2] h := by
  refine g_iast d_149_63 b0 ?_
  refine g_iconst (v := 1) d_149_64 (by decide) ?_
  exact g_reti d_149_65 rfl hq

/-! 152 PlayedTruth.item(III)I -/
theorem k_152_0 {X : GX} {d : Nat} {h : Hp} {v1 : Int32} {v2 : Int32} {v3 : Int32} {d' : Nat} {Q' : Int32 → Hp → Prop} (hdd : d' < d) (hC : CI d' 147 [.int v1] h Q') (kk : ∀ x h', Q' x h' → G X d 152 4 [some (.ref 0), some (.int v1), some (.int v2), some (.int v3), none] [.int x] h') : G X d 152 0 [some (.ref 0), some (.int v1), some (.int v2), some (.int v3), none] [] h := by
  refine g_iload_n d_152_0 rfl rfl ?_
  exact g_callSI (mj := 147) [.int v1] [] d_152_1 wd_316 mo_147 mc_147 mv_147 rfl rfl (Nat.le_of_ble_eq_true rfl)  hdd hC kk

theorem k_152_4 {X : GX} {d : Nat} {h : Hp} {v1 : Int32} {v2 : Int32} {v3 : Int32} {s0 : Int32} (kt : s0 = 0 → G X d 152 16 [none, none, none, none, none] [] h) (kf : ¬ s0 = 0 → G X d 152 7 [some (.ref 0), some (.int v1), some (.int v2), some (.int v3), none] [] h) : G X d 152 4 [some (.ref 0), some (.int v1), some (.int v2), some (.int v3), none] [.int s0] h := by
  exact g_if_eq (tgt := 16) d_152_4 (by decide) (fun q => g_mask [false, false, false, false, false] (kt q)) kf

theorem k_152_7 {X : GX} {d : Nat} {h : Hp} {v1 : Int32} {v2 : Int32} {v3 : Int32} {d' : Nat} {Q' : Int32 → Hp → Prop} (hdd : d' < d) (hC : CI d' 11 [.int v2, .int 0, .int 4] h Q') (kk : ∀ x h', Q' x h' → G X d 152 13 [some (.ref 0), some (.int v1), some (.int v2), some (.int v3), none] [.int x] h') : G X d 152 7 [some (.ref 0), some (.int v1), some (.int v2), some (.int v3), none] [] h := by
  refine g_iload_n d_152_7 rfl rfl ?_
  refine g_iconst (v := 0) d_152_8 (by decide) ?_
  refine g_iconst (v := 4) d_152_9 (by decide) ?_
  exact g_callSI (mj := 11) [.int v2, .int 0, .int 4] [] d_152_10 wd_143 mo_11 mc_11 mv_11 rfl rfl (Nat.le_of_ble_eq_true rfl)  hdd hC kk

theorem k_152_13 {X : GX} {d : Nat} {h : Hp} {v1 : Int32} {v2 : Int32} {v3 : Int32} {s0 : Int32} (kt : ¬ s0 = 0 → G X d 152 18 [some (.ref 0), some (.int v1), some (.int v2), some (.int v3), none] [] h) (kf : s0 = 0 → G X d 152 16 [none, none, none, none, none] [] h) : G X d 152 13 [some (.ref 0), some (.int v1), some (.int v2), some (.int v3), none] [.int s0] h := by
  exact g_if_ne (tgt := 18) d_152_13 (by decide) kt (fun q => g_mask [false, false, false, false, false] (kf q))

theorem k_152_16 {X : GX} {d : Nat} {h : Hp} (hq : RtX X (some (.int ((-1)))) h) : G X d 152 16 [none, none, none, none, none] [] h := by
  refine g_iconst (v := (-1)) d_152_16 (by decide) ?_
  exact g_reti d_152_17 rfl hq

theorem k_152_18 {X : GX} {d : Nat} {h : Hp} {v1 : Int32} {v2 : Int32} {v3 : Int32} {d' : Nat} {Q' : Int32 → Hp → Prop} (hdd : d' < d) (hC : CI d' 153 [.ref 50, .int v1, .int v2] h Q') (kk : ∀ x h', Q' x h' → G X d 152 27 [some (.ref 0), some (.int v1), none, some (.int v3), none] [.int x] h') : G X d 152 18 [some (.ref 0), some (.int v1), some (.int v2), some (.int v3), none] [] h := by
  refine g_aload_n d_152_18 rfl rfl ?_
  refine g_getf (ci := 8) (k := 5) d_152_19 wd_134 (Nat.le_of_ble_eq_true rfl) rfl rfl ?_
  refine g_iload_n d_152_22 rfl rfl ?_
  refine g_iload_n d_152_23 rfl rfl ?_
  exact g_callVI (mj := 153) 2 [.int v1, .int v2] [] d_152_24 wd_322 mo_153 mc_153 mv_153 rfl rfl rfl (Nat.le_of_ble_eq_true rfl) rfl hdd hC (fun x h' q => g_mask [true, true, false, true, false] (kk x h' q))

theorem k_152_27 {X : GX} {d : Nat} {h : Hp} {v1 : Int32} {v3 : Int32} {s0 : Int32} (kt : s0 = 0 → G X d 152 37 [some (.ref 0), some (.int v1), none, some (.int v3), none] [] h) (kf : ¬ s0 = 0 → G X d 152 34 [none, none, none, none, some (.int s0)] [] h) : G X d 152 27 [some (.ref 0), some (.int v1), none, some (.int v3), none] [.int s0] h := by
  refine g_istore d_152_27 (Nat.le_of_ble_eq_true rfl) rfl ?_
  refine g_iload d_152_29 rfl ?_
  exact g_if_eq (tgt := 37) d_152_31 (by decide) (fun q => g_mask [true, true, false, true, false] (kt q)) (fun q => g_mask [false, false, false, false, true] (kf q))

theorem k_152_34 {X : GX} {d : Nat} {h : Hp} {v4 : Int32} (hq : RtX X (some (.int v4)) h) : G X d 152 34 [none, none, none, none, some (.int v4)] [] h := by
  refine g_iload d_152_34 rfl ?_
  exact g_reti d_152_36 rfl hq

theorem k_152_37 {X : GX} {d : Nat} {h : Hp} {v1 : Int32} {v3 : Int32} {d' : Nat} {Q' : Int32 → Hp → Prop} (hdd : d' < d) (hC : CI d' 150 [.ref 50, .int v1, .int v3] h Q') (kk : ∀ x h', Q' x h' → G X d 152 46 [some (.ref 0), some (.int v1), none, some (.int v3), none] [.int x] h') : G X d 152 37 [some (.ref 0), some (.int v1), none, some (.int v3), none] [] h := by
  refine g_aload_n d_152_37 rfl rfl ?_
  refine g_getf (ci := 8) (k := 5) d_152_38 wd_134 (Nat.le_of_ble_eq_true rfl) rfl rfl ?_
  refine g_iload_n d_152_41 rfl rfl ?_
  refine g_iload_n d_152_42 rfl rfl ?_
  exact g_callVI (mj := 150) 2 [.int v1, .int v3] [] d_152_43 wd_319 mo_150 mc_150 mv_150 rfl rfl rfl (Nat.le_of_ble_eq_true rfl) rfl hdd hC kk

theorem k_152_46 {X : GX} {d : Nat} {h : Hp} {v1 : Int32} {v3 : Int32} {s0 : Int32} (kt : s0 = 0 → G X d 152 63 [none, none, none, none, none] [] h) (kf : ¬ s0 = 0 → G X d 152 49 [some (.ref 0), some (.int v1), none, some (.int v3), none] [] h) : G X d 152 46 [some (.ref 0), some (.int v1), none, some (.int v3), none] [.int s0] h := by
  exact g_if_eq (tgt := 63) d_152_46 (by decide) (fun q => g_mask [false, false, false, false, false] (kt q)) kf

theorem k_152_49 {X : GX} {d : Nat} {h : Hp} {v1 : Int32} {v3 : Int32} (b0 : vp_in v1 4) (b1 : IA (54 + Int32.toNatClampNeg v1) v3) (hq : RtX X (some (.int (h (54 + Int32.toNatClampNeg v1) (Int32.toNatClampNeg v3)))) h) : G X d 152 49 [some (.ref 0), some (.int v1), none, some (.int v3), none] [] h := by
  refine g_aload_n d_152_49 rfl rfl ?_
  refine g_getf (ci := 8) (k := 5) d_152_50 wd_134 (Nat.le_of_ble_eq_true rfl) rfl rfl ?_
  refine g_getf (ci := 2) (k := 2) d_152_53 wd_113 (Nat.le_of_ble_eq_true rfl) rfl rfl ?_
  refine g_iload_n d_152_56 rfl rfl ?_
  refine g_aald (tt := 1) d_152_57 (by decide) rfl b0 ?_
  refine g_iload_n d_152_58 rfl rfl ?_
  refine g_iald d_152_59 b1 ?_
  refine g_goto (tgt := 65) d_152_60 (by decide) ?_
  exact g_reti d_152_65 rfl hq

theorem k_152_63 {X : GX} {d : Nat} {h : Hp} (hq : RtX X (some (.int ((-12)))) h) : G X d 152 63 [none, none, none, none, none] [] h := by
  refine g_bipush (v := (-12)) d_152_63 (by decide) ?_
  exact g_reti d_152_65 rfl hq

/-! 154 PlayedTruth.goAll(III)I -/
theorem k_154_0 {X : GX} {d : Nat} {h : Hp} {v1 : Int32} {v2 : Int32} {v3 : Int32} {d' : Nat} {Q' : Int32 → Hp → Prop} (hdd : d' < d) (hC : CI d' 147 [.int v1] h Q') (kk : ∀ x h', Q' x h' → G X d 154 4 [some (.ref 0), some (.int v1), some (.int v2), some (.int v3), none, none, none, none] [.int x] h') : G X d 154 0 [some (.ref 0), some (.int v1), some (.int v2), some (.int v3), none, none, none, none] [] h := by
  refine g_iload_n d_154_0 rfl rfl ?_
  exact g_callSI (mj := 147) [.int v1] [] d_154_1 wd_316 mo_147 mc_147 mv_147 rfl rfl (Nat.le_of_ble_eq_true rfl)  hdd hC kk

theorem k_154_4 {X : GX} {d : Nat} {h : Hp} {v1 : Int32} {v2 : Int32} {v3 : Int32} {s0 : Int32} (kt : s0 = 0 → G X d 154 17 [none, none, none, none, none, none, none, none] [] h) (kf : ¬ s0 = 0 → G X d 154 7 [some (.ref 0), some (.int v1), some (.int v2), some (.int v3), none, none, none, none] [] h) : G X d 154 4 [some (.ref 0), some (.int v1), some (.int v2), some (.int v3), none, none, none, none] [.int s0] h := by
  exact g_if_eq (tgt := 17) d_154_4 (by decide) (fun q => g_mask [false, false, false, false, false, false, false, false] (kt q)) kf

theorem k_154_7 {X : GX} {d : Nat} {h : Hp} {v1 : Int32} {v2 : Int32} {v3 : Int32} {d' : Nat} {Q' : Int32 → Hp → Prop} (hdd : d' < d) (hC : CI d' 11 [.int v3, .int 0, .int 20] h Q') (kk : ∀ x h', Q' x h' → G X d 154 14 [some (.ref 0), some (.int v1), some (.int v2), some (.int v3), none, none, none, none] [.int x] h') : G X d 154 7 [some (.ref 0), some (.int v1), some (.int v2), some (.int v3), none, none, none, none] [] h := by
  refine g_iload_n d_154_7 rfl rfl ?_
  refine g_iconst (v := 0) d_154_8 (by decide) ?_
  refine g_bipush (v := 20) d_154_9 (by decide) ?_
  exact g_callSI (mj := 11) [.int v3, .int 0, .int 20] [] d_154_11 wd_143 mo_11 mc_11 mv_11 rfl rfl (Nat.le_of_ble_eq_true rfl)  hdd hC kk

theorem k_154_14 {X : GX} {d : Nat} {h : Hp} {v1 : Int32} {v2 : Int32} {v3 : Int32} {s0 : Int32} (kt : ¬ s0 = 0 → G X d 154 19 [some (.ref 0), some (.int v1), some (.int v2), some (.int v3), none, none, none, none] [] h) (kf : s0 = 0 → G X d 154 17 [none, none, none, none, none, none, none, none] [] h) : G X d 154 14 [some (.ref 0), some (.int v1), some (.int v2), some (.int v3), none, none, none, none] [.int s0] h := by
  exact g_if_ne (tgt := 19) d_154_14 (by decide) kt (fun q => g_mask [false, false, false, false, false, false, false, false] (kf q))

theorem k_154_17 {X : GX} {d : Nat} {h : Hp} (hq : RtX X (some (.int ((-1)))) h) : G X d 154 17 [none, none, none, none, none, none, none, none] [] h := by
  refine g_iconst (v := (-1)) d_154_17 (by decide) ?_
  exact g_reti d_154_18 rfl hq

theorem k_154_19 {X : GX} {d : Nat} {h : Hp} {v1 : Int32} {v2 : Int32} {v3 : Int32} {d' : Nat} {Q' : Int32 → Hp → Prop} (hdd : d' < d) (hC : CI d' 153 [.ref 50, .int v1, .int 0] h Q') (kk : ∀ x h', Q' x h' → G X d 154 28 [some (.ref 0), some (.int v1), some (.int v2), some (.int v3), none, none, none, none] [.int x] h') : G X d 154 19 [some (.ref 0), some (.int v1), some (.int v2), some (.int v3), none, none, none, none] [] h := by
  refine g_aload_n d_154_19 rfl rfl ?_
  refine g_getf (ci := 8) (k := 5) d_154_20 wd_134 (Nat.le_of_ble_eq_true rfl) rfl rfl ?_
  refine g_iload_n d_154_23 rfl rfl ?_
  refine g_iconst (v := 0) d_154_24 (by decide) ?_
  exact g_callVI (mj := 153) 2 [.int v1, .int 0] [] d_154_25 wd_322 mo_153 mc_153 mv_153 rfl rfl rfl (Nat.le_of_ble_eq_true rfl) rfl hdd hC kk

theorem k_154_28 {X : GX} {d : Nat} {h : Hp} {v1 : Int32} {v2 : Int32} {v3 : Int32} {s0 : Int32} (kt : s0 = 0 → G X d 154 38 [some (.ref 0), some (.int v1), some (.int v2), some (.int v3), none, none, none, none] [] h) (kf : ¬ s0 = 0 → G X d 154 35 [none, none, none, none, some (.int s0), none, none, none] [] h) : G X d 154 28 [some (.ref 0), some (.int v1), some (.int v2), some (.int v3), none, none, none, none] [.int s0] h := by
  refine g_istore d_154_28 (Nat.le_of_ble_eq_true rfl) rfl ?_
  refine g_iload d_154_30 rfl ?_
  exact g_if_eq (tgt := 38) d_154_32 (by decide) (fun q => g_mask [true, true, true, true, false, false, false, false] (kt q)) (fun q => g_mask [false, false, false, false, true, false, false, false] (kf q))

theorem k_154_35 {X : GX} {d : Nat} {h : Hp} {v4 : Int32} (hq : RtX X (some (.int v4)) h) : G X d 154 35 [none, none, none, none, some (.int v4), none, none, none] [] h := by
  refine g_iload d_154_35 rfl ?_
  exact g_reti d_154_37 rfl hq

theorem k_154_38 {X : GX} {d : Nat} {h : Hp} {v1 : Int32} {v2 : Int32} {v3 : Int32} (kk : G X d 154 44 [some (.ref 0), some (.int v1), some (.int v2), some (.int v3), none, some (.int 0), some (.int 0), none] [] h) : G X d 154 38 [some (.ref 0), some (.int v1), some (.int v2), some (.int v3), none, none, none, none] [] h := by
  refine g_iconst (v := 0) d_154_38 (by decide) ?_
  refine g_istore d_154_39 (Nat.le_of_ble_eq_true rfl) rfl ?_
  refine g_iconst (v := 0) d_154_41 (by decide) ?_
  refine g_istore d_154_42 (Nat.le_of_ble_eq_true rfl) rfl ?_
  exact kk

theorem k_154_44 {X : GX} {d : Nat} {h : Hp} {v1 : Int32} {v2 : Int32} {v3 : Int32} {v5 : Int32} {v6 : Int32} (kt : v3 ≤ v6 → G X d 154 134 [none, none, none, none, none, some (.int v5), none, none] [] h) (kf : ¬ v3 ≤ v6 → G X d 154 50 [some (.ref 0), some (.int v1), some (.int v2), some (.int v3), none, some (.int v5), some (.int v6), none] [] h) : G X d 154 44 [some (.ref 0), some (.int v1), some (.int v2), some (.int v3), none, some (.int v5), some (.int v6), none] [] h := by
  refine g_iload d_154_44 rfl ?_
  refine g_iload_n d_154_46 rfl rfl ?_
  exact g_icmp_ge (tgt := 134) d_154_47 (by decide) (fun q => g_mask [false, false, false, false, false, true, false, false] (kt q)) kf

theorem k_154_50 {X : GX} {d : Nat} {h : Hp} {v1 : Int32} {v2 : Int32} {v3 : Int32} {v5 : Int32} {v6 : Int32} {d' : Nat} {Q' : Int32 → Hp → Prop} (hdd : d' < d) (hC : CI d' 150 [.ref 50, .int v1, .int (v2 + v6)] h Q') (kk : ∀ x h', Q' x h' → G X d 154 62 [some (.ref 0), some (.int v1), some (.int v2), some (.int v3), none, some (.int v5), some (.int v6), none] [.int x] h') : G X d 154 50 [some (.ref 0), some (.int v1), some (.int v2), some (.int v3), none, some (.int v5), some (.int v6), none] [] h := by
  refine g_aload_n d_154_50 rfl rfl ?_
  refine g_getf (ci := 8) (k := 5) d_154_51 wd_134 (Nat.le_of_ble_eq_true rfl) rfl rfl ?_
  refine g_iload_n d_154_54 rfl rfl ?_
  refine g_iload_n d_154_55 rfl rfl ?_
  refine g_iload d_154_56 rfl ?_
  refine g_iadd d_154_58 ?_
  exact g_callVI (mj := 150) 2 [.int v1, .int (v2 + v6)] [] d_154_59 wd_319 mo_150 mc_150 mv_150 rfl rfl rfl (Nat.le_of_ble_eq_true rfl) rfl hdd hC kk

theorem k_154_62 {X : GX} {d : Nat} {h : Hp} {v1 : Int32} {v2 : Int32} {v3 : Int32} {v5 : Int32} {v6 : Int32} {s0 : Int32} (kt : ¬ s0 = 0 → G X d 154 68 [some (.ref 0), some (.int v1), some (.int v2), some (.int v3), none, some (.int v5), some (.int v6), none] [] h) (kf : s0 = 0 → G X d 154 65 [none, none, none, none, none, none, none, none] [] h) : G X d 154 62 [some (.ref 0), some (.int v1), some (.int v2), some (.int v3), none, some (.int v5), some (.int v6), none] [.int s0] h := by
  exact g_if_ne (tgt := 68) d_154_62 (by decide) kt (fun q => g_mask [false, false, false, false, false, false, false, false] (kf q))

theorem k_154_65 {X : GX} {d : Nat} {h : Hp} (hq : RtX X (some (.int ((-12)))) h) : G X d 154 65 [none, none, none, none, none, none, none, none] [] h := by
  refine g_bipush (v := (-12)) d_154_65 (by decide) ?_
  exact g_reti d_154_67 rfl hq

theorem k_154_68 {X : GX} {d : Nat} {h : Hp} {v1 : Int32} {v2 : Int32} {v3 : Int32} {v5 : Int32} {v6 : Int32} {d' : Nat} {Q' : Int32 → Hp → Prop} (b0 : vp_in v1 4) (b1 : IA (54 + Int32.toNatClampNeg v1) (v2 + v6)) (hdd : d' < d) (hC : CI d' 145 [.ref 1, .int (h (54 + Int32.toNatClampNeg v1) (Int32.toNatClampNeg (v2 + v6)))] h Q') (kk : ∀ x h', Q' x h' → G X d 154 93 [some (.ref 0), some (.int v1), some (.int v2), some (.int v3), none, some (.int v5), some (.int v6), some (.int (h (54 + Int32.toNatClampNeg v1) (Int32.toNatClampNeg (v2 + v6))))] [.int x] h') : G X d 154 68 [some (.ref 0), some (.int v1), some (.int v2), some (.int v3), none, some (.int v5), some (.int v6), none] [] h := by
  refine g_aload_n d_154_68 rfl rfl ?_
  refine g_getf (ci := 8) (k := 5) d_154_69 wd_134 (Nat.le_of_ble_eq_true rfl) rfl rfl ?_
  refine g_getf (ci := 2) (k := 2) d_154_72 wd_113 (Nat.le_of_ble_eq_true rfl) rfl rfl ?_
  refine g_iload_n d_154_75 rfl rfl ?_
  refine g_aald (tt := 1) d_154_76 (by decide) rfl b0 ?_
  refine g_iload_n d_154_77 rfl rfl ?_
  refine g_iload d_154_78 rfl ?_
  refine g_iadd d_154_80 ?_
  refine g_iald d_154_81 b1 ?_
  refine g_istore d_154_82 (Nat.le_of_ble_eq_true rfl) rfl ?_
  refine g_aload_n d_154_84 rfl rfl ?_
  refine g_getf (ci := 8) (k := 0) d_154_85 wd_129 (Nat.le_of_ble_eq_true rfl) rfl rfl ?_
  refine g_iload d_154_88 rfl ?_
  exact g_callVI (mj := 145) 6 [.int (h (54 + Int32.toNatClampNeg v1) (Int32.toNatClampNeg (v2 + v6)))] [] d_154_90 wd_324 mo_145 mc_145 mv_145 rfl rfl rfl (Nat.le_of_ble_eq_true rfl) rfl hdd hC kk

theorem k_154_93 {X : GX} {d : Nat} {h : Hp} {v1 : Int32} {v2 : Int32} {v3 : Int32} {v5 : Int32} {v6 : Int32} {v7 : Int32} {s0 : Int32} (kt : s0 = 0 → G X d 154 128 [some (.ref 0), some (.int v1), some (.int v2), some (.int v3), none, some (.int v5), some (.int v6), none] [] h) (kf : ¬ s0 = 0 → G X d 154 96 [some (.ref 0), some (.int v1), some (.int v2), some (.int v3), none, some (.int v5), some (.int v6), some (.int v7)] [] h) : G X d 154 93 [some (.ref 0), some (.int v1), some (.int v2), some (.int v3), none, some (.int v5), some (.int v6), some (.int v7)] [.int s0] h := by
  exact g_if_eq (tgt := 128) d_154_93 (by decide) (fun q => g_mask [true, true, true, true, false, true, true, false] (kt q)) kf

theorem k_154_96 {X : GX} {d : Nat} {h : Hp} {v1 : Int32} {v2 : Int32} {v3 : Int32} {v5 : Int32} {v6 : Int32} {v7 : Int32} {d' : Nat} {Q' : Int32 → Hp → Prop} (hdd : d' < d) (hC : CI d' 38 [.ref 1, .ref 13] h Q') (kk : ∀ x h', Q' x h' → G X d 154 107 [some (.ref 0), some (.int v1), some (.int v2), some (.int v3), none, some (.int v5), some (.int v6), some (.int v7)] [.int x] h') : G X d 154 96 [some (.ref 0), some (.int v1), some (.int v2), some (.int v3), none, some (.int v5), some (.int v6), some (.int v7)] [] h := by
  refine g_aload_n d_154_96 rfl rfl ?_
  refine g_getf (ci := 8) (k := 0) d_154_97 wd_129 (Nat.le_of_ble_eq_true rfl) rfl rfl ?_
  refine g_aload_n d_154_100 rfl rfl ?_
  refine g_getf (ci := 8) (k := 1) d_154_101 wd_130 (Nat.le_of_ble_eq_true rfl) rfl rfl ?_
  exact g_callVI (mj := 38) 6 [.ref 13] [] d_154_104 wd_175 mo_38 mc_38 mv_38 rfl rfl rfl (Nat.le_of_ble_eq_true rfl) rfl hdd hC kk

theorem k_154_107 {X : GX} {d : Nat} {h : Hp} {v1 : Int32} {v2 : Int32} {v3 : Int32} {v5 : Int32} {v6 : Int32} {v7 : Int32} {s0 : Int32} (kt : ¬ s0 = 0 → G X d 154 128 [some (.ref 0), some (.int v1), some (.int v2), some (.int v3), none, some (.int v5), some (.int v6), none] [] h) (kf : s0 = 0 → G X d 154 110 [some (.ref 0), some (.int v1), some (.int v2), some (.int v3), none, some (.int v5), some (.int v6), some (.int v7)] [] h) : G X d 154 107 [some (.ref 0), some (.int v1), some (.int v2), some (.int v3), none, some (.int v5), some (.int v6), some (.int v7)] [.int s0] h := by
  exact g_if_ne (tgt := 128) d_154_107 (by decide) (fun q => g_mask [true, true, true, true, false, true, true, false] (kt q)) kf

theorem k_154_110 {X : GX} {d : Nat} {h : Hp} {v1 : Int32} {v2 : Int32} {v3 : Int32} {v5 : Int32} {v6 : Int32} {v7 : Int32} {d' : Nat} {Q' : Int32 → Hp → Prop} (hdd : d' < d) (hC : CI d' 81 [.ref 1, .ref 13, .int v7] h Q') (kk : ∀ x h', Q' x h' → G X d 154 125 [some (.ref 0), some (.int v1), some (.int v2), some (.int v3), none, none, some (.int v6), none] [.int x, .int v5] h') : G X d 154 110 [some (.ref 0), some (.int v1), some (.int v2), some (.int v3), none, some (.int v5), some (.int v6), some (.int v7)] [] h := by
  refine g_iload d_154_110 rfl ?_
  refine g_aload_n d_154_112 rfl rfl ?_
  refine g_getf (ci := 8) (k := 0) d_154_113 wd_129 (Nat.le_of_ble_eq_true rfl) rfl rfl ?_
  refine g_aload_n d_154_116 rfl rfl ?_
  refine g_getf (ci := 8) (k := 1) d_154_117 wd_130 (Nat.le_of_ble_eq_true rfl) rfl rfl ?_
  refine g_iload d_154_120 rfl ?_
  exact g_callVI (mj := 81) 6 [.ref 13, .int v7] [.int v5] d_154_122 wd_227 mo_81 mc_81 mv_81 rfl rfl rfl (Nat.le_of_ble_eq_true rfl) rfl hdd hC (fun x h' q => g_mask [true, true, true, true, false, false, true, false] (kk x h' q))

theorem k_154_125 {X : GX} {d : Nat} {h : Hp} {v1 : Int32} {v2 : Int32} {v3 : Int32} {v6 : Int32} {s0 : Int32} {s1 : Int32} (kk : G X d 154 44 [some (.ref 0), some (.int v1), some (.int v2), some (.int v3), none, some (.int (s1 + s0)), some (.int (v6 + 1)), none] [] h) : G X d 154 125 [some (.ref 0), some (.int v1), some (.int v2), some (.int v3), none, none, some (.int v6), none] [.int s0, .int s1] h := by
  refine g_iadd d_154_125 ?_
  refine g_istore d_154_126 (Nat.le_of_ble_eq_true rfl) rfl ?_
  refine g_iinc (w := 1) d_154_128 rfl (by decide) (Nat.le_of_ble_eq_true rfl) rfl ?_
  refine g_goto (tgt := 44) d_154_131 (by decide) ?_
  exact kk

theorem k_154_128 {X : GX} {d : Nat} {h : Hp} {v1 : Int32} {v2 : Int32} {v3 : Int32} {v5 : Int32} {v6 : Int32} (kk : G X d 154 44 [some (.ref 0), some (.int v1), some (.int v2), some (.int v3), none, some (.int v5), some (.int (v6 + 1)), none] [] h) : G X d 154 128 [some (.ref 0), some (.int v1), some (.int v2), some (.int v3), none, some (.int v5), some (.int v6), none] [] h := by
  refine g_iinc (w := 1) d_154_128 rfl (by decide) (Nat.le_of_ble_eq_true rfl) rfl ?_
  refine g_goto (tgt := 44) d_154_131 (by decide) ?_
  exact kk

theorem k_154_134 {X : GX} {d : Nat} {h : Hp} {v5 : Int32} (hq : RtX X (some (.int v5)) h) : G X d 154 134 [none, none, none, none, none, some (.int v5), none, none] [] h := by
  refine g_iload d_154_134 rfl ?_
  exact g_reti d_154_136 rfl hq

/-! 155 PlayedTruth.wouldBe(III)I -/
theorem k_155_0 {X : GX} {d : Nat} {h : Hp} {v1 : Int32} {v2 : Int32} {v3 : Int32} {d' : Nat} {Q' : Int32 → Hp → Prop} (hdd : d' < d) (hC : CI d' 147 [.int v1] h Q') (kk : ∀ x h', Q' x h' → G X d 155 4 [some (.ref 0), some (.int v1), some (.int v2), some (.int v3), none] [.int x] h') : G X d 155 0 [some (.ref 0), some (.int v1), some (.int v2), some (.int v3), none] [] h := by
  refine g_iload_n d_155_0 rfl rfl ?_
  exact g_callSI (mj := 147) [.int v1] [] d_155_1 wd_316 mo_147 mc_147 mv_147 rfl rfl (Nat.le_of_ble_eq_true rfl)  hdd hC kk

theorem k_155_4 {X : GX} {d : Nat} {h : Hp} {v1 : Int32} {v2 : Int32} {v3 : Int32} {s0 : Int32} (kt : s0 = 0 → G X d 155 17 [none, none, none, none, none] [] h) (kf : ¬ s0 = 0 → G X d 155 7 [some (.ref 0), some (.int v1), some (.int v2), some (.int v3), none] [] h) : G X d 155 4 [some (.ref 0), some (.int v1), some (.int v2), some (.int v3), none] [.int s0] h := by
  exact g_if_eq (tgt := 17) d_155_4 (by decide) (fun q => g_mask [false, false, false, false, false] (kt q)) kf

theorem k_155_7 {X : GX} {d : Nat} {h : Hp} {v1 : Int32} {v2 : Int32} {v3 : Int32} {d' : Nat} {Q' : Int32 → Hp → Prop} (hdd : d' < d) (hC : CI d' 11 [.int v3, .int 0, .int 20] h Q') (kk : ∀ x h', Q' x h' → G X d 155 14 [some (.ref 0), some (.int v1), some (.int v2), some (.int v3), none] [.int x] h') : G X d 155 7 [some (.ref 0), some (.int v1), some (.int v2), some (.int v3), none] [] h := by
  refine g_iload_n d_155_7 rfl rfl ?_
  refine g_iconst (v := 0) d_155_8 (by decide) ?_
  refine g_bipush (v := 20) d_155_9 (by decide) ?_
  exact g_callSI (mj := 11) [.int v3, .int 0, .int 20] [] d_155_11 wd_143 mo_11 mc_11 mv_11 rfl rfl (Nat.le_of_ble_eq_true rfl)  hdd hC kk

theorem k_155_14 {X : GX} {d : Nat} {h : Hp} {v1 : Int32} {v2 : Int32} {v3 : Int32} {s0 : Int32} (kt : ¬ s0 = 0 → G X d 155 19 [some (.ref 0), some (.int v1), some (.int v2), some (.int v3), none] [] h) (kf : s0 = 0 → G X d 155 17 [none, none, none, none, none] [] h) : G X d 155 14 [some (.ref 0), some (.int v1), some (.int v2), some (.int v3), none] [.int s0] h := by
  exact g_if_ne (tgt := 19) d_155_14 (by decide) kt (fun q => g_mask [false, false, false, false, false] (kf q))

theorem k_155_17 {X : GX} {d : Nat} {h : Hp} (hq : RtX X (some (.int ((-1)))) h) : G X d 155 17 [none, none, none, none, none] [] h := by
  refine g_iconst (v := (-1)) d_155_17 (by decide) ?_
  exact g_reti d_155_18 rfl hq

theorem k_155_19 {X : GX} {d : Nat} {h : Hp} {v1 : Int32} {v2 : Int32} {v3 : Int32} {d' : Nat} {Q' : Int32 → Hp → Prop} (hdd : d' < d) (hC : CI d' 153 [.ref 50, .int v1, .int 0] h Q') (kk : ∀ x h', Q' x h' → G X d 155 28 [some (.ref 0), some (.int v1), some (.int v2), some (.int v3), none] [.int x] h') : G X d 155 19 [some (.ref 0), some (.int v1), some (.int v2), some (.int v3), none] [] h := by
  refine g_aload_n d_155_19 rfl rfl ?_
  refine g_getf (ci := 8) (k := 5) d_155_20 wd_134 (Nat.le_of_ble_eq_true rfl) rfl rfl ?_
  refine g_iload_n d_155_23 rfl rfl ?_
  refine g_iconst (v := 0) d_155_24 (by decide) ?_
  exact g_callVI (mj := 153) 2 [.int v1, .int 0] [] d_155_25 wd_322 mo_153 mc_153 mv_153 rfl rfl rfl (Nat.le_of_ble_eq_true rfl) rfl hdd hC kk

theorem k_155_28 {X : GX} {d : Nat} {h : Hp} {v1 : Int32} {v2 : Int32} {v3 : Int32} {s0 : Int32} (kt : s0 = 0 → G X d 155 40 [some (.ref 0), some (.int v1), some (.int v2), some (.int v3), none] [] h) (kf : ¬ s0 = 0 → G X d 155 35 [none, none, none, none, some (.int s0)] [] h) : G X d 155 28 [some (.ref 0), some (.int v1), some (.int v2), some (.int v3), none] [.int s0] h := by
  refine g_istore d_155_28 (Nat.le_of_ble_eq_true rfl) rfl ?_
  refine g_iload d_155_30 rfl ?_
  exact g_if_eq (tgt := 40) d_155_32 (by decide) (fun q => g_mask [true, true, true, true, false] (kt q)) (fun q => g_mask [false, false, false, false, true] (kf q))

theorem k_155_35 {X : GX} {d : Nat} {h : Hp} {v4 : Int32} (hq : RtX X (some (.int v4)) h) : G X d 155 35 [none, none, none, none, some (.int v4)] [] h := by
  refine g_iload d_155_35 rfl ?_
  refine g_goto (tgt := 54) d_155_37 (by decide) ?_
  exact g_reti d_155_54 rfl hq

theorem k_155_40 {X : GX} {d : Nat} {h : Hp} {v1 : Int32} {v2 : Int32} {v3 : Int32} {d' : Nat} {Q' : Int32 → Hp → Prop} (hdd : d' < d) (hC : CI d' 156 [.ref 31, .ref 50, .int v1, .int v2, .int v3] h Q') (kk : ∀ x h', Q' x h' → G X d 155 54 [none, none, none, none, none] [.int x] h') : G X d 155 40 [some (.ref 0), some (.int v1), some (.int v2), some (.int v3), none] [] h := by
  refine g_aload_n d_155_40 rfl rfl ?_
  refine g_getf (ci := 8) (k := 4) d_155_41 wd_133 (Nat.le_of_ble_eq_true rfl) rfl rfl ?_
  refine g_aload_n d_155_44 rfl rfl ?_
  refine g_getf (ci := 8) (k := 5) d_155_45 wd_134 (Nat.le_of_ble_eq_true rfl) rfl rfl ?_
  refine g_iload_n d_155_48 rfl rfl ?_
  refine g_iload_n d_155_49 rfl rfl ?_
  refine g_iload_n d_155_50 rfl rfl ?_
  exact g_callVI (mj := 156) 1 [.ref 50, .int v1, .int v2, .int v3] [] d_155_51 wd_326 mo_156 mc_156 mv_156 rfl rfl rfl (Nat.le_of_ble_eq_true rfl) rfl hdd hC (fun x h' q => g_mask [false, false, false, false, false] (kk x h' q))

theorem k_155_54 {X : GX} {d : Nat} {h : Hp} {s0 : Int32} (hq : RtX X (some (.int s0)) h) : G X d 155 54 [none, none, none, none, none] [.int s0] h := by
  exact g_reti d_155_54 rfl hq

/-! 157 PlayedTruth.shelf(III)I -/
theorem k_157_0 {X : GX} {d : Nat} {h : Hp} {v1 : Int32} {v2 : Int32} {v3 : Int32} {d' : Nat} {Q' : Int32 → Hp → Prop} (hdd : d' < d) (hC : CI d' 158 [.int v1] h Q') (kk : ∀ x h', Q' x h' → G X d 157 4 [some (.ref 0), some (.int v1), some (.int v2), some (.int v3)] [.int x] h') : G X d 157 0 [some (.ref 0), some (.int v1), some (.int v2), some (.int v3)] [] h := by
  refine g_iload_n d_157_0 rfl rfl ?_
  exact g_callSI (mj := 158) [.int v1] [] d_157_1 wd_329 mo_158 mc_158 mv_158 rfl rfl (Nat.le_of_ble_eq_true rfl)  hdd hC kk

theorem k_157_4 {X : GX} {d : Nat} {h : Hp} {v1 : Int32} {v2 : Int32} {v3 : Int32} {s0 : Int32} (kt : ¬ s0 = 0 → G X d 157 9 [some (.ref 0), some (.int v1), some (.int v2), some (.int v3)] [] h) (kf : s0 = 0 → G X d 157 7 [none, none, none, none] [] h) : G X d 157 4 [some (.ref 0), some (.int v1), some (.int v2), some (.int v3)] [.int s0] h := by
  exact g_if_ne (tgt := 9) d_157_4 (by decide) kt (fun q => g_mask [false, false, false, false] (kf q))

theorem k_157_7 {X : GX} {d : Nat} {h : Hp} (hq : RtX X (some (.int ((-1)))) h) : G X d 157 7 [none, none, none, none] [] h := by
  refine g_iconst (v := (-1)) d_157_7 (by decide) ?_
  exact g_reti d_157_8 rfl hq

theorem k_157_9 {X : GX} {d : Nat} {h : Hp} {v1 : Int32} {v2 : Int32} {v3 : Int32} (k0 : v2 = 0 → G X d 157 36 [some (.ref 0), some (.int v1), none, some (.int v3)] [] h) (k1 : v2 = 1 → G X d 157 60 [some (.ref 0), some (.int v1), none, some (.int v3)] [] h) (k2 : v2 = 2 → G X d 157 81 [some (.ref 0), some (.int v1), none, none] [] h) (kd : ¬ v2 = 0 → ¬ v2 = 1 → ¬ v2 = 2 → G X d 157 93 [none, none, none, none] [] h) : G X d 157 9 [some (.ref 0), some (.int v1), some (.int v2), some (.int v3)] [] h := by
  refine g_iload_n d_157_9 rfl rfl ?_
  exact g_table (tls := [(0, 36), (1, 60), (2, 81)]) (df := 93) d_157_10 (by decide +kernel) ⟨fun q => g_mask [true, true, false, true] (k0 q), fun n0 => ⟨fun q => g_mask [true, true, false, true] (k1 q), fun n1 => ⟨fun q => g_mask [true, true, false, false] (k2 q), fun n2 => (g_mask [false, false, false, false] (kd n0 n1 n2))⟩⟩⟩

theorem k_157_36 {X : GX} {d : Nat} {h : Hp} {v1 : Int32} {v3 : Int32} {d' : Nat} {Q' : Int32 → Hp → Prop} (hdd : d' < d) (hC : CI d' 14 [.ref 0, .int v3] h Q') (kk : ∀ x h', Q' x h' → G X d 157 41 [some (.ref 0), some (.int v1), none, some (.int v3)] [.int x] h') : G X d 157 36 [some (.ref 0), some (.int v1), none, some (.int v3)] [] h := by
  refine g_aload_n d_157_36 rfl rfl ?_
  refine g_iload_n d_157_37 rfl rfl ?_
  exact g_callVI (mj := 14) 8 [.int v3] [] d_157_38 wd_146 mo_14 mc_14 mv_14 rfl rfl rfl (Nat.le_of_ble_eq_true rfl) rfl hdd hC kk

theorem k_157_41 {X : GX} {d : Nat} {h : Hp} {v1 : Int32} {v3 : Int32} {s0 : Int32} (kt : s0 = 0 → G X d 157 58 [none, none, none, none] [] h) (kf : ¬ s0 = 0 → G X d 157 44 [some (.ref 0), some (.int v1), none, some (.int v3)] [] h) : G X d 157 41 [some (.ref 0), some (.int v1), none, some (.int v3)] [.int s0] h := by
  exact g_if_eq (tgt := 58) d_157_41 (by decide) (fun q => g_mask [false, false, false, false] (kt q)) kf

theorem k_157_44 {X : GX} {d : Nat} {h : Hp} {v1 : Int32} {v3 : Int32} {d' : Nat} {Q' : Int32 → Hp → Prop} (hdd : d' < d) (hC : CI d' 159 [.ref 50, .int v1, .int 1, .int v3, .int 0] h Q') (kk : ∀ x h', Q' x h' → G X d 157 55 [none, none, none, none] [.int x] h') : G X d 157 44 [some (.ref 0), some (.int v1), none, some (.int v3)] [] h := by
  refine g_aload_n d_157_44 rfl rfl ?_
  refine g_getf (ci := 8) (k := 5) d_157_45 wd_134 (Nat.le_of_ble_eq_true rfl) rfl rfl ?_
  refine g_iload_n d_157_48 rfl rfl ?_
  refine g_iconst (v := 1) d_157_49 (by decide) ?_
  refine g_iload_n d_157_50 rfl rfl ?_
  refine g_iconst (v := 0) d_157_51 (by decide) ?_
  exact g_callVI (mj := 159) 2 [.int v1, .int 1, .int v3, .int 0] [] d_157_52 wd_330 mo_159 mc_159 mv_159 rfl rfl rfl (Nat.le_of_ble_eq_true rfl) rfl hdd hC (fun x h' q => g_mask [false, false, false, false] (kk x h' q))

theorem k_157_55 {X : GX} {d : Nat} {h : Hp} {s0 : Int32} (hq : RtX X (some (.int s0)) h) : G X d 157 55 [none, none, none, none] [.int s0] h := by
  refine g_goto (tgt := 59) d_157_55 (by decide) ?_
  exact g_reti d_157_59 rfl hq

theorem k_157_58 {X : GX} {d : Nat} {h : Hp} (hq : RtX X (some (.int ((-1)))) h) : G X d 157 58 [none, none, none, none] [] h := by
  refine g_iconst (v := (-1)) d_157_58 (by decide) ?_
  exact g_reti d_157_59 rfl hq

theorem k_157_60 {X : GX} {d : Nat} {h : Hp} {v1 : Int32} {v3 : Int32} {d' : Nat} {Q' : Int32 → Hp → Prop} (hdd : d' < d) (hC : CI d' 147 [.int v3] h Q') (kk : ∀ x h', Q' x h' → G X d 157 64 [some (.ref 0), some (.int v1), none, some (.int v3)] [.int x] h') : G X d 157 60 [some (.ref 0), some (.int v1), none, some (.int v3)] [] h := by
  refine g_iload_n d_157_60 rfl rfl ?_
  exact g_callSI (mj := 147) [.int v3] [] d_157_61 wd_316 mo_147 mc_147 mv_147 rfl rfl (Nat.le_of_ble_eq_true rfl)  hdd hC kk

theorem k_157_64 {X : GX} {d : Nat} {h : Hp} {v1 : Int32} {v3 : Int32} {s0 : Int32} (kt : s0 = 0 → G X d 157 79 [none, none, none, none] [] h) (kf : ¬ s0 = 0 → G X d 157 67 [some (.ref 0), some (.int v1), none, some (.int v3)] [] h) : G X d 157 64 [some (.ref 0), some (.int v1), none, some (.int v3)] [.int s0] h := by
  exact g_if_eq (tgt := 79) d_157_64 (by decide) (fun q => g_mask [false, false, false, false] (kt q)) kf

theorem k_157_67 {X : GX} {d : Nat} {h : Hp} {v1 : Int32} {v3 : Int32} {d' : Nat} {Q' : Int32 → Hp → Prop} (hdd : d' < d) (hC : CI d' 160 [.ref 50, .int v1, .int v3] h Q') (kk : ∀ x h', Q' x h' → G X d 157 76 [none, none, none, none] [.int x] h') : G X d 157 67 [some (.ref 0), some (.int v1), none, some (.int v3)] [] h := by
  refine g_aload_n d_157_67 rfl rfl ?_
  refine g_getf (ci := 8) (k := 5) d_157_68 wd_134 (Nat.le_of_ble_eq_true rfl) rfl rfl ?_
  refine g_iload_n d_157_71 rfl rfl ?_
  refine g_iload_n d_157_72 rfl rfl ?_
  exact g_callVI (mj := 160) 2 [.int v1, .int v3] [] d_157_73 wd_331 mo_160 mc_160 mv_160 rfl rfl rfl (Nat.le_of_ble_eq_true rfl) rfl hdd hC (fun x h' q => g_mask [false, false, false, false] (kk x h' q))

theorem k_157_76 {X : GX} {d : Nat} {h : Hp} {s0 : Int32} (hq : RtX X (some (.int s0)) h) : G X d 157 76 [none, none, none, none] [.int s0] h := by
  refine g_goto (tgt := 80) d_157_76 (by decide) ?_
  exact g_reti d_157_80 rfl hq

theorem k_157_79 {X : GX} {d : Nat} {h : Hp} (hq : RtX X (some (.int ((-1)))) h) : G X d 157 79 [none, none, none, none] [] h := by
  refine g_iconst (v := (-1)) d_157_79 (by decide) ?_
  exact g_reti d_157_80 rfl hq

theorem k_157_81 {X : GX} {d : Nat} {h : Hp} {v1 : Int32} {d' : Nat} {Q' : Int32 → Hp → Prop} (hdd : d' < d) (hC : CI d' 159 [.ref 50, .int v1, .int 0, .int 0, .int 0] h Q') (kk : ∀ x h', Q' x h' → G X d 157 92 [none, none, none, none] [.int x] h') : G X d 157 81 [some (.ref 0), some (.int v1), none, none] [] h := by
  refine g_aload_n d_157_81 rfl rfl ?_
  refine g_getf (ci := 8) (k := 5) d_157_82 wd_134 (Nat.le_of_ble_eq_true rfl) rfl rfl ?_
  refine g_iload_n d_157_85 rfl rfl ?_
  refine g_iconst (v := 0) d_157_86 (by decide) ?_
  refine g_iconst (v := 0) d_157_87 (by decide) ?_
  refine g_iconst (v := 0) d_157_88 (by decide) ?_
  exact g_callVI (mj := 159) 2 [.int v1, .int 0, .int 0, .int 0] [] d_157_89 wd_330 mo_159 mc_159 mv_159 rfl rfl rfl (Nat.le_of_ble_eq_true rfl) rfl hdd hC (fun x h' q => g_mask [false, false, false, false] (kk x h' q))

theorem k_157_92 {X : GX} {d : Nat} {h : Hp} {s0 : Int32} (hq : RtX X (some (.int s0)) h) : G X d 157 92 [none, none, none, none] [.int s0] h := by
  exact g_reti d_157_92 rfl hq

theorem k_157_93 {X : GX} {d : Nat} {h : Hp} (hq : RtX X (some (.int ((-1)))) h) : G X d 157 93 [none, none, none, none] [] h := by
  refine g_iconst (v := (-1)) d_157_93 (by decide) ?_
  exact g_reti d_157_94 rfl hq

/-! 161 PlayedTruth.taken(II)I -/
theorem k_161_0 {X : GX} {d : Nat} {h : Hp} {v1 : Int32} {v2 : Int32} {d' : Nat} {Q' : Int32 → Hp → Prop} (hdd : d' < d) (hC : CI d' 11 [.int v2, .int 0, .int 5] h Q') (kk : ∀ x h', Q' x h' → G X d 161 6 [some (.ref 0), some (.int v1), some (.int v2), none, none] [.int x] h') : G X d 161 0 [some (.ref 0), some (.int v1), some (.int v2), none, none] [] h := by
  refine g_iload_n d_161_0 rfl rfl ?_
  refine g_iconst (v := 0) d_161_1 (by decide) ?_
  refine g_iconst (v := 5) d_161_2 (by decide) ?_
  exact g_callSI (mj := 11) [.int v2, .int 0, .int 5] [] d_161_3 wd_143 mo_11 mc_11 mv_11 rfl rfl (Nat.le_of_ble_eq_true rfl)  hdd hC kk

theorem k_161_6 {X : GX} {d : Nat} {h : Hp} {v1 : Int32} {v2 : Int32} {s0 : Int32} {d' : Nat} {Q' : Int32 → Hp → Prop} (hdd : d' < d) (hC : CI d' 158 [.int v1] h Q') (kk : ∀ x h', Q' x h' → G X d 161 11 [some (.ref 0), some (.int v1), some (.int v2), some (.int s0), none] [.int x] h') : G X d 161 6 [some (.ref 0), some (.int v1), some (.int v2), none, none] [.int s0] h := by
  refine g_istore_n d_161_6 rfl (Nat.le_of_ble_eq_true rfl) rfl ?_
  refine g_iload_n d_161_7 rfl rfl ?_
  exact g_callSI (mj := 158) [.int v1] [] d_161_8 wd_329 mo_158 mc_158 mv_158 rfl rfl (Nat.le_of_ble_eq_true rfl)  hdd hC kk

theorem k_161_11 {X : GX} {d : Nat} {h : Hp} {v1 : Int32} {v2 : Int32} {v3 : Int32} {s0 : Int32} (kt : s0 = 0 → G X d 161 29 [none, none, none, none, none] [] h) (kf : ¬ s0 = 0 → G X d 161 14 [some (.ref 0), some (.int v1), some (.int v2), some (.int v3), none] [] h) : G X d 161 11 [some (.ref 0), some (.int v1), some (.int v2), some (.int v3), none] [.int s0] h := by
  exact g_if_eq (tgt := 29) d_161_11 (by decide) (fun q => g_mask [false, false, false, false, false] (kt q)) kf

theorem k_161_14 {X : GX} {d : Nat} {h : Hp} {v1 : Int32} {v2 : Int32} {v3 : Int32} (kt : ¬ v3 = 0 → G X d 161 31 [some (.ref 0), some (.int v1), some (.int v2), some (.int v3), none] [] h) (kf : v3 = 0 → G X d 161 18 [some (.ref 0), some (.int v1), some (.int v2), some (.int v3), none] [] h) : G X d 161 14 [some (.ref 0), some (.int v1), some (.int v2), some (.int v3), none] [] h := by
  refine g_iload_n d_161_14 rfl rfl ?_
  exact g_if_ne (tgt := 31) d_161_15 (by decide) kt kf

theorem k_161_18 {X : GX} {d : Nat} {h : Hp} {v1 : Int32} {v2 : Int32} {v3 : Int32} {d' : Nat} {Q' : Int32 → Hp → Prop} (hdd : d' < d) (hC : CI d' 11 [.int v2, .int 10, .int 14] h Q') (kk : ∀ x h', Q' x h' → G X d 161 26 [some (.ref 0), some (.int v1), some (.int v2), some (.int v3), none] [.int x] h') : G X d 161 18 [some (.ref 0), some (.int v1), some (.int v2), some (.int v3), none] [] h := by
  refine g_iload_n d_161_18 rfl rfl ?_
  refine g_bipush (v := 10) d_161_19 (by decide) ?_
  refine g_bipush (v := 14) d_161_21 (by decide) ?_
  exact g_callSI (mj := 11) [.int v2, .int 10, .int 14] [] d_161_23 wd_143 mo_11 mc_11 mv_11 rfl rfl (Nat.le_of_ble_eq_true rfl)  hdd hC kk

theorem k_161_26 {X : GX} {d : Nat} {h : Hp} {v1 : Int32} {v2 : Int32} {v3 : Int32} {s0 : Int32} (kt : ¬ s0 = 0 → G X d 161 31 [some (.ref 0), some (.int v1), some (.int v2), some (.int v3), none] [] h) (kf : s0 = 0 → G X d 161 29 [none, none, none, none, none] [] h) : G X d 161 26 [some (.ref 0), some (.int v1), some (.int v2), some (.int v3), none] [.int s0] h := by
  exact g_if_ne (tgt := 31) d_161_26 (by decide) kt (fun q => g_mask [false, false, false, false, false] (kf q))

theorem k_161_29 {X : GX} {d : Nat} {h : Hp} (hq : RtX X (some (.int ((-1)))) h) : G X d 161 29 [none, none, none, none, none] [] h := by
  refine g_iconst (v := (-1)) d_161_29 (by decide) ?_
  exact g_reti d_161_30 rfl hq

theorem k_161_31 {X : GX} {d : Nat} {h : Hp} {v1 : Int32} {v2 : Int32} {v3 : Int32} {d' : Nat} {Q' : Int32 → Hp → Prop} (hdd : d' < d) (hC : CI d' 162 [.ref 0, .int v1] h Q') (kk : ∀ x h', Q' x h' → G X d 161 36 [some (.ref 0), some (.int v1), some (.int v2), some (.int v3), none] [.int x] h') : G X d 161 31 [some (.ref 0), some (.int v1), some (.int v2), some (.int v3), none] [] h := by
  refine g_aload_n d_161_31 rfl rfl ?_
  refine g_iload_n d_161_32 rfl rfl ?_
  exact g_callVI (mj := 162) 8 [.int v1] [] d_161_33 wd_334 mo_162 mc_162 mv_162 rfl rfl rfl (Nat.le_of_ble_eq_true rfl) rfl hdd hC kk

theorem k_161_36 {X : GX} {d : Nat} {h : Hp} {v1 : Int32} {v2 : Int32} {v3 : Int32} {s0 : Int32} (kt : s0 = 0 → G X d 161 42 [some (.ref 0), some (.int v1), some (.int v2), some (.int v3), none] [] h) (kf : ¬ s0 = 0 → G X d 161 39 [none, none, none, none, none] [] h) : G X d 161 36 [some (.ref 0), some (.int v1), some (.int v2), some (.int v3), none] [.int s0] h := by
  exact g_if_eq (tgt := 42) d_161_36 (by decide) kt (fun q => g_mask [false, false, false, false, false] (kf q))

theorem k_161_39 {X : GX} {d : Nat} {h : Hp} (hq : RtX X (some (.int ((-11)))) h) : G X d 161 39 [none, none, none, none, none] [] h := by
  refine g_bipush (v := (-11)) d_161_39 (by decide) ?_
  exact g_reti d_161_41 rfl hq

theorem k_161_42 {X : GX} {d : Nat} {h : Hp} {v1 : Int32} {v2 : Int32} {v3 : Int32} (b0 : IA 59 v1) (b1 : IA 58 v1) (kt : ¬ (h 58 (Int32.toNatClampNeg v1)) = 2 → G X d 161 90 [some (.ref 0), none, some (.int v2), some (.int v3), some (.int (h 59 (Int32.toNatClampNeg v1)))] [] h) (kf : (h 58 (Int32.toNatClampNeg v1)) = 2 → G X d 161 66 [some (.ref 0), some (.int v1), some (.int v2), none, some (.int (h 59 (Int32.toNatClampNeg v1)))] [] h) : G X d 161 42 [some (.ref 0), some (.int v1), some (.int v2), some (.int v3), none] [] h := by
  refine g_aload_n d_161_42 rfl rfl ?_
  refine g_getf (ci := 8) (k := 5) d_161_43 wd_134 (Nat.le_of_ble_eq_true rfl) rfl rfl ?_
  refine g_getf (ci := 2) (k := 4) d_161_46 wd_117 (Nat.le_of_ble_eq_true rfl) rfl rfl ?_
  refine g_iload_n d_161_49 rfl rfl ?_
  refine g_iald d_161_50 b0 ?_
  refine g_istore d_161_51 (Nat.le_of_ble_eq_true rfl) rfl ?_
  refine g_aload_n d_161_53 rfl rfl ?_
  refine g_getf (ci := 8) (k := 5) d_161_54 wd_134 (Nat.le_of_ble_eq_true rfl) rfl rfl ?_
  refine g_getf (ci := 2) (k := 3) d_161_57 wd_115 (Nat.le_of_ble_eq_true rfl) rfl rfl ?_
  refine g_iload_n d_161_60 rfl rfl ?_
  refine g_iald d_161_61 b1 ?_
  refine g_iconst (v := 2) d_161_62 (by decide) ?_
  exact g_icmp_ne (tgt := 90) d_161_63 (by decide) (fun q => g_mask [true, false, true, true, true] (kt q)) (fun q => g_mask [true, true, true, false, true] (kf q))

theorem k_161_66 {X : GX} {d : Nat} {h : Hp} {v1 : Int32} {v2 : Int32} {v4 : Int32} (kt : ¬ v4 = (v2 - 10) → G X d 161 87 [none, none, none, none, none] [] h) (kf : v4 = (v2 - 10) → G X d 161 75 [some (.ref 0), some (.int v1), none, none, none] [] h) : G X d 161 66 [some (.ref 0), some (.int v1), some (.int v2), none, some (.int v4)] [] h := by
  refine g_iload d_161_66 rfl ?_
  refine g_iload_n d_161_68 rfl rfl ?_
  refine g_bipush (v := 10) d_161_69 (by decide) ?_
  refine g_isub d_161_71 ?_
  exact g_icmp_ne (tgt := 87) d_161_72 (by decide) (fun q => g_mask [false, false, false, false, false] (kt q)) (fun q => g_mask [true, true, false, false, false] (kf q))

theorem k_161_75 {X : GX} {d : Nat} {h : Hp} {v1 : Int32} (b0 : IA 60 v1) (hq : RtX X (some (.int (h 60 (Int32.toNatClampNeg v1)))) h) : G X d 161 75 [some (.ref 0), some (.int v1), none, none, none] [] h := by
  refine g_aload_n d_161_75 rfl rfl ?_
  refine g_getf (ci := 8) (k := 5) d_161_76 wd_134 (Nat.le_of_ble_eq_true rfl) rfl rfl ?_
  refine g_getf (ci := 2) (k := 5) d_161_79 wd_119 (Nat.le_of_ble_eq_true rfl) rfl rfl ?_
  refine g_iload_n d_161_82 rfl rfl ?_
  refine g_iald d_161_83 b0 ?_
  refine g_goto (tgt := 89) d_161_84 (by decide) ?_
  exact g_reti d_161_89 rfl hq

theorem k_161_87 {X : GX} {d : Nat} {h : Hp} (hq : RtX X (some (.int ((-13)))) h) : G X d 161 87 [none, none, none, none, none] [] h := by
  refine g_bipush (v := (-13)) d_161_87 (by decide) ?_
  exact g_reti d_161_89 rfl hq

theorem k_161_90 {X : GX} {d : Nat} {h : Hp} {v2 : Int32} {v3 : Int32} {v4 : Int32} (kt : v3 = 0 → G X d 161 116 [none, none, none, none, none] [] h) (kf : ¬ v3 = 0 → G X d 161 94 [some (.ref 0), none, some (.int v2), none, some (.int v4)] [] h) : G X d 161 90 [some (.ref 0), none, some (.int v2), some (.int v3), some (.int v4)] [] h := by
  refine g_iload_n d_161_90 rfl rfl ?_
  exact g_if_eq (tgt := 116) d_161_91 (by decide) (fun q => g_mask [false, false, false, false, false] (kt q)) (fun q => g_mask [true, false, true, false, true] (kf q))

theorem k_161_94 {X : GX} {d : Nat} {h : Hp} {v2 : Int32} {v4 : Int32} {d' : Nat} {Q' : Int32 → Hp → Prop} (b0 : IA 2 v4) (hdd : d' < d) (hC : CI d' 26 [.int (h 2 (Int32.toNatClampNeg v4)), .int v2] h Q') (kk : ∀ x h', Q' x h' → G X d 161 108 [none, none, none, none, some (.int v4)] [.int x] h') : G X d 161 94 [some (.ref 0), none, some (.int v2), none, some (.int v4)] [] h := by
  refine g_aload_n d_161_94 rfl rfl ?_
  refine g_getf (ci := 8) (k := 0) d_161_95 wd_129 (Nat.le_of_ble_eq_true rfl) rfl rfl ?_
  refine g_getf (ci := 6) (k := 0) d_161_98 wd_15 (Nat.le_of_ble_eq_true rfl) rfl rfl ?_
  refine g_iload d_161_101 rfl ?_
  refine g_iald d_161_103 b0 ?_
  refine g_iload_n d_161_104 rfl rfl ?_
  exact g_callSI (mj := 26) [.int (h 2 (Int32.toNatClampNeg v4)), .int v2] [] d_161_105 wd_335 mo_26 mc_26 mv_26 rfl rfl (Nat.le_of_ble_eq_true rfl)  hdd hC (fun x h' q => g_mask [false, false, false, false, true] (kk x h' q))

theorem k_161_108 {X : GX} {d : Nat} {h : Hp} {v4 : Int32} {s0 : Int32} (kt : s0 = 0 → G X d 161 116 [none, none, none, none, none] [] h) (kf : ¬ s0 = 0 → G X d 161 111 [none, none, none, none, some (.int v4)] [] h) : G X d 161 108 [none, none, none, none, some (.int v4)] [.int s0] h := by
  exact g_if_eq (tgt := 116) d_161_108 (by decide) (fun q => g_mask [false, false, false, false, false] (kt q)) kf

theorem k_161_111 {X : GX} {d : Nat} {h : Hp} {v4 : Int32} (hq : RtX X (some (.int v4)) h) : G X d 161 111 [none, none, none, none, some (.int v4)] [] h := by
  refine g_iload d_161_111 rfl ?_
  refine g_goto (tgt := 118) d_161_113 (by decide) ?_
  exact g_reti d_161_118 rfl hq

theorem k_161_116 {X : GX} {d : Nat} {h : Hp} (hq : RtX X (some (.int ((-13)))) h) : G X d 161 116 [none, none, none, none, none] [] h := by
  refine g_bipush (v := (-13)) d_161_116 (by decide) ?_
  exact g_reti d_161_118 rfl hq

/-! 162 PlayedTruth.isNothing(I)Z -/
theorem k_162_0 {X : GX} {d : Nat} {h : Hp} {v1 : Int32} (b0 : IA 58 v1) (kt : (h 58 (Int32.toNatClampNeg v1)) = 0 → G X d 162 35 [none, none, none] [] h) (kf : ¬ (h 58 (Int32.toNatClampNeg v1)) = 0 → G X d 162 14 [some (.ref 0), some (.int v1), some (.int (h 58 (Int32.toNatClampNeg v1)))] [] h) : G X d 162 0 [some (.ref 0), some (.int v1), none] [] h := by
  refine g_aload_n d_162_0 rfl rfl ?_
  refine g_getf (ci := 8) (k := 5) d_162_1 wd_134 (Nat.le_of_ble_eq_true rfl) rfl rfl ?_
  refine g_getf (ci := 2) (k := 3) d_162_4 wd_115 (Nat.le_of_ble_eq_true rfl) rfl rfl ?_
  refine g_iload_n d_162_7 rfl rfl ?_
  refine g_iald d_162_8 b0 ?_
  refine g_istore_n d_162_9 rfl (Nat.le_of_ble_eq_true rfl) rfl ?_
  refine g_iload_n d_162_10 rfl rfl ?_
  exact g_if_eq (tgt := 35) d_162_11 (by decide) (fun q => g_mask [false, false, false] (kt q)) kf

theorem k_162_14 {X : GX} {d : Nat} {h : Hp} {v1 : Int32} {v2 : Int32} (kt : ¬ v2 = 1 → G X d 162 39 [none, none, none] [] h) (kf : v2 = 1 → G X d 162 19 [some (.ref 0), some (.int v1), none] [] h) : G X d 162 14 [some (.ref 0), some (.int v1), some (.int v2)] [] h := by
  refine g_iload_n d_162_14 rfl rfl ?_
  refine g_iconst (v := 1) d_162_15 (by decide) ?_
  exact g_icmp_ne (tgt := 39) d_162_16 (by decide) (fun q => g_mask [false, false, false] (kt q)) (fun q => g_mask [true, true, false] (kf q))

theorem k_162_19 {X : GX} {d : Nat} {h : Hp} {v1 : Int32} {d' : Nat} {Q' : Int32 → Hp → Prop} (b0 : IA 59 v1) (hdd : d' < d) (hC : CI d' 14 [.ref 0, .int (h 59 (Int32.toNatClampNeg v1))] h Q') (kk : ∀ x h', Q' x h' → G X d 162 32 [none, none, none] [.int x] h') : G X d 162 19 [some (.ref 0), some (.int v1), none] [] h := by
  refine g_aload_n d_162_19 rfl rfl ?_
  refine g_aload_n d_162_20 rfl rfl ?_
  refine g_getf (ci := 8) (k := 5) d_162_21 wd_134 (Nat.le_of_ble_eq_true rfl) rfl rfl ?_
  refine g_getf (ci := 2) (k := 4) d_162_24 wd_117 (Nat.le_of_ble_eq_true rfl) rfl rfl ?_
  refine g_iload_n d_162_27 rfl rfl ?_
  refine g_iald d_162_28 b0 ?_
  exact g_callVI (mj := 14) 8 [.int (h 59 (Int32.toNatClampNeg v1))] [] d_162_29 wd_146 mo_14 mc_14 mv_14 rfl rfl rfl (Nat.le_of_ble_eq_true rfl) rfl hdd hC (fun x h' q => g_mask [false, false, false] (kk x h' q))

theorem k_162_32 {X : GX} {d : Nat} {h : Hp} {s0 : Int32} (kt : ¬ s0 = 0 → G X d 162 39 [none, none, none] [] h) (kf : s0 = 0 → G X d 162 35 [none, none, none] [] h) : G X d 162 32 [none, none, none] [.int s0] h := by
  exact g_if_ne (tgt := 39) d_162_32 (by decide) kt kf

theorem k_162_35 {X : GX} {d : Nat} {h : Hp} (hq : RtX X (some (.int 1)) h) : G X d 162 35 [none, none, none] [] h := by
  refine g_iconst (v := 1) d_162_35 (by decide) ?_
  refine g_goto (tgt := 40) d_162_36 (by decide) ?_
  exact g_retz d_162_40 rfl z01_1 hq

theorem k_162_39 {X : GX} {d : Nat} {h : Hp} (hq : RtX X (some (.int 0)) h) : G X d 162 39 [none, none, none] [] h := by
  refine g_iconst (v := 0) d_162_39 (by decide) ?_
  exact g_retz d_162_40 rfl z01_0 hq

/-! 163 PlayedTruth.act(III)I -/
theorem k_163_0 {X : GX} {d : Nat} {h : Hp} {v1 : Int32} {v2 : Int32} {v3 : Int32} {d' : Nat} {Q' : Hp → Prop} (hdd : d' < d) (hC : CV d' 164 [.ref 61] h Q') (kk : ∀ h', Q' h' → G X d 163 7 [some (.ref 0), some (.int v1), some (.int v2), some (.int v3), none] [] h') : G X d 163 0 [some (.ref 0), some (.int v1), some (.int v2), some (.int v3), none] [] h := by
  refine g_aload_n d_163_0 rfl rfl ?_
  refine g_getf (ci := 8) (k := 6) d_163_1 wd_135 (Nat.le_of_ble_eq_true rfl) rfl rfl ?_
  exact g_callVV (mj := 164) 0 [] [] d_163_4 wd_337 mo_164 mc_164 mv_164 rfl rfl rfl (Nat.le_of_ble_eq_true rfl) rfl hdd hC kk

theorem k_163_7 {X : GX} {d : Nat} {h : Hp} {v1 : Int32} {v2 : Int32} {v3 : Int32} {d' : Nat} {Q' : Int32 → Hp → Prop} (hdd : d' < d) (hC : CI d' 158 [.int v1] h Q') (kk : ∀ x h', Q' x h' → G X d 163 11 [some (.ref 0), some (.int v1), some (.int v2), some (.int v3), none] [.int x] h') : G X d 163 7 [some (.ref 0), some (.int v1), some (.int v2), some (.int v3), none] [] h := by
  refine g_iload_n d_163_7 rfl rfl ?_
  exact g_callSI (mj := 158) [.int v1] [] d_163_8 wd_329 mo_158 mc_158 mv_158 rfl rfl (Nat.le_of_ble_eq_true rfl)  hdd hC kk

theorem k_163_11 {X : GX} {d : Nat} {h : Hp} {v1 : Int32} {v2 : Int32} {v3 : Int32} {s0 : Int32} (kt : s0 = 0 → G X d 163 23 [none, none, none, none, none] [] h) (kf : ¬ s0 = 0 → G X d 163 14 [some (.ref 0), some (.int v1), some (.int v2), some (.int v3), none] [] h) : G X d 163 11 [some (.ref 0), some (.int v1), some (.int v2), some (.int v3), none] [.int s0] h := by
  exact g_if_eq (tgt := 23) d_163_11 (by decide) (fun q => g_mask [false, false, false, false, false] (kt q)) kf

theorem k_163_14 {X : GX} {d : Nat} {h : Hp} {v1 : Int32} {v2 : Int32} {v3 : Int32} {d' : Nat} {Q' : Int32 → Hp → Prop} (hdd : d' < d) (hC : CI d' 11 [.int v2, .int 0, .int 3] h Q') (kk : ∀ x h', Q' x h' → G X d 163 20 [some (.ref 0), some (.int v1), some (.int v2), some (.int v3), none] [.int x] h') : G X d 163 14 [some (.ref 0), some (.int v1), some (.int v2), some (.int v3), none] [] h := by
  refine g_iload_n d_163_14 rfl rfl ?_
  refine g_iconst (v := 0) d_163_15 (by decide) ?_
  refine g_iconst (v := 3) d_163_16 (by decide) ?_
  exact g_callSI (mj := 11) [.int v2, .int 0, .int 3] [] d_163_17 wd_143 mo_11 mc_11 mv_11 rfl rfl (Nat.le_of_ble_eq_true rfl)  hdd hC kk

theorem k_163_20 {X : GX} {d : Nat} {h : Hp} {v1 : Int32} {v2 : Int32} {v3 : Int32} {s0 : Int32} (kt : ¬ s0 = 0 → G X d 163 25 [some (.ref 0), some (.int v1), some (.int v2), some (.int v3), none] [] h) (kf : s0 = 0 → G X d 163 23 [none, none, none, none, none] [] h) : G X d 163 20 [some (.ref 0), some (.int v1), some (.int v2), some (.int v3), none] [.int s0] h := by
  exact g_if_ne (tgt := 25) d_163_20 (by decide) kt (fun q => g_mask [false, false, false, false, false] (kf q))

theorem k_163_23 {X : GX} {d : Nat} {h : Hp} (hq : RtX X (some (.int 0)) h) : G X d 163 23 [none, none, none, none, none] [] h := by
  refine g_iconst (v := 0) d_163_23 (by decide) ?_
  exact g_reti d_163_24 rfl hq

theorem k_163_25 {X : GX} {d : Nat} {h : Hp} {v1 : Int32} {v2 : Int32} {v3 : Int32} {d' : Nat} {Q' : Int32 → Hp → Prop} (hdd : d' < d) (hC : CI d' 162 [.ref 0, .int v1] h Q') (kk : ∀ x h', Q' x h' → G X d 163 30 [some (.ref 0), some (.int v1), some (.int v2), some (.int v3), none] [.int x] h') : G X d 163 25 [some (.ref 0), some (.int v1), some (.int v2), some (.int v3), none] [] h := by
  refine g_aload_n d_163_25 rfl rfl ?_
  refine g_iload_n d_163_26 rfl rfl ?_
  exact g_callVI (mj := 162) 8 [.int v1] [] d_163_27 wd_334 mo_162 mc_162 mv_162 rfl rfl rfl (Nat.le_of_ble_eq_true rfl) rfl hdd hC kk

theorem k_163_30 {X : GX} {d : Nat} {h : Hp} {v1 : Int32} {v2 : Int32} {v3 : Int32} {s0 : Int32} (kt : ¬ s0 = 0 → G X d 163 46 [none, none, none, none, none] [] h) (kf : s0 = 0 → G X d 163 33 [some (.ref 0), some (.int v1), some (.int v2), some (.int v3), none] [] h) : G X d 163 30 [some (.ref 0), some (.int v1), some (.int v2), some (.int v3), none] [.int s0] h := by
  exact g_if_ne (tgt := 46) d_163_30 (by decide) (fun q => g_mask [false, false, false, false, false] (kt q)) kf

theorem k_163_33 {X : GX} {d : Nat} {h : Hp} {v1 : Int32} {v2 : Int32} {v3 : Int32} (b0 : IA 58 v1) (kt : ¬ (h 58 (Int32.toNatClampNeg v1)) = 2 → G X d 163 48 [some (.ref 0), some (.int v1), some (.int v2), some (.int v3), none] [] h) (kf : (h 58 (Int32.toNatClampNeg v1)) = 2 → G X d 163 46 [none, none, none, none, none] [] h) : G X d 163 33 [some (.ref 0), some (.int v1), some (.int v2), some (.int v3), none] [] h := by
  refine g_aload_n d_163_33 rfl rfl ?_
  refine g_getf (ci := 8) (k := 5) d_163_34 wd_134 (Nat.le_of_ble_eq_true rfl) rfl rfl ?_
  refine g_getf (ci := 2) (k := 3) d_163_37 wd_115 (Nat.le_of_ble_eq_true rfl) rfl rfl ?_
  refine g_iload_n d_163_40 rfl rfl ?_
  refine g_iald d_163_41 b0 ?_
  refine g_iconst (v := 2) d_163_42 (by decide) ?_
  exact g_icmp_ne (tgt := 48) d_163_43 (by decide) kt (fun q => g_mask [false, false, false, false, false] (kf q))

theorem k_163_46 {X : GX} {d : Nat} {h : Hp} (hq : RtX X (some (.int 0)) h) : G X d 163 46 [none, none, none, none, none] [] h := by
  refine g_iconst (v := 0) d_163_46 (by decide) ?_
  exact g_reti d_163_47 rfl hq

theorem k_163_48 {X : GX} {d : Nat} {h : Hp} {v1 : Int32} {v2 : Int32} {v3 : Int32} {d' : Nat} {Q' : Int32 → Hp → Prop} (b0 : IA 59 v1) (b1 : IA 2 (h 59 (Int32.toNatClampNeg v1))) (b2 : IA 3 (h 59 (Int32.toNatClampNeg v1))) (hdd : d' < d) (hC : CI d' 165 [.ref 61, .int (h 2 (Int32.toNatClampNeg (h 59 (Int32.toNatClampNeg v1)))), .int (h 59 (Int32.toNatClampNeg v1)), .int (h 3 (Int32.toNatClampNeg (h 59 (Int32.toNatClampNeg v1)))), .int v2, .int v3] h Q') (kk : ∀ x h', Q' x h' → G X d 163 90 [none, none, none, none, none] [.int x] h') : G X d 163 48 [some (.ref 0), some (.int v1), some (.int v2), some (.int v3), none] [] h := by
  refine g_aload_n d_163_48 rfl rfl ?_
  refine g_getf (ci := 8) (k := 5) d_163_49 wd_134 (Nat.le_of_ble_eq_true rfl) rfl rfl ?_
  refine g_getf (ci := 2) (k := 4) d_163_52 wd_117 (Nat.le_of_ble_eq_true rfl) rfl rfl ?_
  refine g_iload_n d_163_55 rfl rfl ?_
  refine g_iald d_163_56 b0 ?_
  refine g_istore d_163_57 (Nat.le_of_ble_eq_true rfl) rfl ?_
  refine g_aload_n d_163_59 rfl rfl ?_
  refine g_getf (ci := 8) (k := 6) d_163_60 wd_135 (Nat.le_of_ble_eq_true rfl) rfl rfl ?_
  refine g_aload_n d_163_63 rfl rfl ?_
  refine g_getf (ci := 8) (k := 0) d_163_64 wd_129 (Nat.le_of_ble_eq_true rfl) rfl rfl ?_
  refine g_getf (ci := 6) (k := 0) d_163_67 wd_15 (Nat.le_of_ble_eq_true rfl) rfl rfl ?_
  refine g_iload d_163_70 rfl ?_
  refine g_iald d_163_72 b1 ?_
  refine g_iload d_163_73 rfl ?_
  refine g_aload_n d_163_75 rfl rfl ?_
  refine g_getf (ci := 8) (k := 0) d_163_76 wd_129 (Nat.le_of_ble_eq_true rfl) rfl rfl ?_
  refine g_getf (ci := 6) (k := 1) d_163_79 wd_17 (Nat.le_of_ble_eq_true rfl) rfl rfl ?_
  refine g_iload d_163_82 rfl ?_
  refine g_iald d_163_84 b2 ?_
  refine g_iload_n d_163_85 rfl rfl ?_
  refine g_iload_n d_163_86 rfl rfl ?_
  exact g_callVI (mj := 165) 0 [.int (h 2 (Int32.toNatClampNeg (h 59 (Int32.toNatClampNeg v1)))), .int (h 59 (Int32.toNatClampNeg v1)), .int (h 3 (Int32.toNatClampNeg (h 59 (Int32.toNatClampNeg v1)))), .int v2, .int v3] [] d_163_87 wd_338 mo_165 mc_165 mv_165 rfl rfl rfl (Nat.le_of_ble_eq_true rfl) rfl hdd hC (fun x h' q => g_mask [false, false, false, false, false] (kk x h' q))

theorem k_163_90 {X : GX} {d : Nat} {h : Hp} {s0 : Int32} (hq : RtX X (some (.int s0)) h) : G X d 163 90 [none, none, none, none, none] [.int s0] h := by
  exact g_reti d_163_90 rfl hq

/-! 169 PlayedTruth.trace(I)I -/
theorem k_169_0 {X : GX} {d : Nat} {h : Hp} {v1 : Int32} {d' : Nat} {Q' : Int32 → Hp → Prop} (hdd : d' < d) (hC : CI d' 11 [.int v1, .int 0, .int ((h 61 1) - 1)] h Q') (kk : ∀ x h', Q' x h' → G X d 169 14 [some (.ref 0), some (.int v1)] [.int x] h') : G X d 169 0 [some (.ref 0), some (.int v1)] [] h := by
  refine g_iload_n d_169_0 rfl rfl ?_
  refine g_iconst (v := 0) d_169_1 (by decide) ?_
  refine g_aload_n d_169_2 rfl rfl ?_
  refine g_getf (ci := 8) (k := 6) d_169_3 wd_135 (Nat.le_of_ble_eq_true rfl) rfl rfl ?_
  refine g_getf (ci := 0) (k := 1) d_169_6 wd_124 (Nat.le_of_ble_eq_true rfl) rfl rfl ?_
  refine g_iconst (v := 1) d_169_9 (by decide) ?_
  refine g_isub d_169_10 ?_
  exact g_callSI (mj := 11) [.int v1, .int 0, .int ((h 61 1) - 1)] [] d_169_11 wd_143 mo_11 mc_11 mv_11 rfl rfl (Nat.le_of_ble_eq_true rfl)  hdd hC kk

theorem k_169_14 {X : GX} {d : Nat} {h : Hp} {v1 : Int32} {s0 : Int32} (kt : s0 = 0 → G X d 169 29 [none, none] [] h) (kf : ¬ s0 = 0 → G X d 169 17 [some (.ref 0), some (.int v1)] [] h) : G X d 169 14 [some (.ref 0), some (.int v1)] [.int s0] h := by
  exact g_if_eq (tgt := 29) d_169_14 (by decide) (fun q => g_mask [false, false] (kt q)) kf

theorem k_169_17 {X : GX} {d : Nat} {h : Hp} {v1 : Int32} (b0 : IA 62 v1) (hq : RtX X (some (.int (h 62 (Int32.toNatClampNeg v1)))) h) : G X d 169 17 [some (.ref 0), some (.int v1)] [] h := by
  refine g_aload_n d_169_17 rfl rfl ?_
  refine g_getf (ci := 8) (k := 6) d_169_18 wd_135 (Nat.le_of_ble_eq_true rfl) rfl rfl ?_
  refine g_getf (ci := 0) (k := 0) d_169_21 wd_122 (Nat.le_of_ble_eq_true rfl) rfl rfl ?_
  refine g_iload_n d_169_24 rfl rfl ?_
  refine g_iald d_169_25 b0 ?_
  refine g_goto (tgt := 31) d_169_26 (by decide) ?_
  exact g_reti d_169_31 rfl hq

theorem k_169_29 {X : GX} {d : Nat} {h : Hp} (hq : RtX X (some (.int ((-3)))) h) : G X d 169 29 [none, none] [] h := by
  refine g_bipush (v := (-3)) d_169_29 (by decide) ?_
  exact g_reti d_169_31 rfl hq

/-! 170 PlayedTruth.many(I)I -/
theorem k_170_0 {X : GX} {d : Nat} {h : Hp} {v1 : Int32} (k0 : v1 = 0 → G X d 170 44 [some (.ref 0), none] [] h) (k1 : v1 = 1 → G X d 170 52 [some (.ref 0), none] [] h) (k2 : v1 = 2 → G X d 170 63 [some (.ref 0), none] [] h) (k3 : v1 = 3 → G X d 170 74 [some (.ref 0), none] [] h) (k4 : v1 = 4 → G X d 170 82 [some (.ref 0), none] [] h) (k5 : v1 = 5 → G X d 170 87 [some (.ref 0), none] [] h) (k6 : v1 = 6 → G X d 170 95 [some (.ref 0), none] [] h) (kd : ¬ v1 = 0 → ¬ v1 = 1 → ¬ v1 = 2 → ¬ v1 = 3 → ¬ v1 = 4 → ¬ v1 = 5 → ¬ v1 = 6 → G X d 170 103 [none, none] [] h) : G X d 170 0 [some (.ref 0), some (.int v1)] [] h := by
  refine g_iload_n d_170_0 rfl rfl ?_
  exact g_table (tls := [(0, 44), (1, 52), (2, 63), (3, 74), (4, 82), (5, 87), (6, 95)]) (df := 103) d_170_1 (by decide +kernel) ⟨fun q => g_mask [true, false] (k0 q), fun n0 => ⟨fun q => g_mask [true, false] (k1 q), fun n1 => ⟨fun q => g_mask [true, false] (k2 q), fun n2 => ⟨fun q => g_mask [true, false] (k3 q), fun n3 => ⟨fun q => g_mask [true, false] (k4 q), fun n4 => ⟨fun q => g_mask [true, false] (k5 q), fun n5 => ⟨fun q => g_mask [true, false] (k6 q), fun n6 => (g_mask [false, false] (kd n0 n1 n2 n3 n4 n5 n6))⟩⟩⟩⟩⟩⟩⟩

theorem k_170_44 {X : GX} {d : Nat} {h : Hp} (hq : RtX X (some (.int (h 1 7))) h) : G X d 170 44 [some (.ref 0), none] [] h := by
  refine g_aload_n d_170_44 rfl rfl ?_
  refine g_getf (ci := 8) (k := 0) d_170_45 wd_129 (Nat.le_of_ble_eq_true rfl) rfl rfl ?_
  refine g_getf (ci := 6) (k := 7) d_170_48 wd_28 (Nat.le_of_ble_eq_true rfl) rfl rfl ?_
  exact g_reti d_170_51 rfl hq

theorem k_170_52 {X : GX} {d : Nat} {h : Hp} (hq : RtX X (some (.int (h 7 5))) h) : G X d 170 52 [some (.ref 0), none] [] h := by
  refine g_aload_n d_170_52 rfl rfl ?_
  refine g_getf (ci := 8) (k := 0) d_170_53 wd_129 (Nat.le_of_ble_eq_true rfl) rfl rfl ?_
  refine g_getf (ci := 6) (k := 5) d_170_56 wd_25 (Nat.le_of_ble_eq_true rfl) rfl rfl ?_
  refine g_getf (ci := 5) (k := 5) d_170_59 wd_13 (Nat.le_of_ble_eq_true rfl) rfl rfl ?_
  exact g_reti d_170_62 rfl hq

theorem k_170_63 {X : GX} {d : Nat} {h : Hp} {d' : Nat} {Q' : Int32 → Hp → Prop} (hdd : d' < d) (hC : CI d' 105 [.int (h 13 2)] h Q') (kk : ∀ x h', Q' x h' → G X d 170 73 [none, none] [.int x] h') : G X d 170 63 [some (.ref 0), none] [] h := by
  refine g_aload_n d_170_63 rfl rfl ?_
  refine g_getf (ci := 8) (k := 1) d_170_64 wd_130 (Nat.le_of_ble_eq_true rfl) rfl rfl ?_
  refine g_getf (ci := 3) (k := 2) d_170_67 wd_41 (Nat.le_of_ble_eq_true rfl) rfl rfl ?_
  exact g_callSI (mj := 105) [.int (h 13 2)] [] d_170_70 wd_259 mo_105 mc_105 mv_105 rfl rfl (Nat.le_of_ble_eq_true rfl)  hdd hC (fun x h' q => g_mask [false, false] (kk x h' q))

theorem k_170_73 {X : GX} {d : Nat} {h : Hp} {s0 : Int32} (hq : RtX X (some (.int s0)) h) : G X d 170 73 [none, none] [.int s0] h := by
  exact g_reti d_170_73 rfl hq

theorem k_170_74 {X : GX} {d : Nat} {h : Hp} (hq : RtX X (some (.int (h 16 4))) h) : G X d 170 74 [some (.ref 0), none] [] h := by
  refine g_aload_n d_170_74 rfl rfl ?_
  refine g_getf (ci := 8) (k := 2) d_170_75 wd_131 (Nat.le_of_ble_eq_true rfl) rfl rfl ?_
  refine g_getf (ci := 7) (k := 4) d_170_78 wd_62 (Nat.le_of_ble_eq_true rfl) rfl rfl ?_
  exact g_reti d_170_81 rfl hq

theorem k_170_82 {X : GX} {d : Nat} {h : Hp} (hq : RtX X (some (.int (h 0 8))) h) : G X d 170 82 [some (.ref 0), none] [] h := by
  refine g_aload_n d_170_82 rfl rfl ?_
  refine g_getf (ci := 8) (k := 8) d_170_83 wd_137 (Nat.le_of_ble_eq_true rfl) rfl rfl ?_
  exact g_reti d_170_86 rfl hq

theorem k_170_87 {X : GX} {d : Nat} {h : Hp} (hq : RtX X (some (.int (h 21 1))) h) : G X d 170 87 [some (.ref 0), none] [] h := by
  refine g_aload_n d_170_87 rfl rfl ?_
  refine g_getf (ci := 8) (k := 3) d_170_88 wd_132 (Nat.le_of_ble_eq_true rfl) rfl rfl ?_
  refine g_getf (ci := 4) (k := 1) d_170_91 wd_76 (Nat.le_of_ble_eq_true rfl) rfl rfl ?_
  exact g_reti d_170_94 rfl hq

theorem k_170_95 {X : GX} {d : Nat} {h : Hp} (hq : RtX X (some (.int (h 61 1))) h) : G X d 170 95 [some (.ref 0), none] [] h := by
  refine g_aload_n d_170_95 rfl rfl ?_
  refine g_getf (ci := 8) (k := 6) d_170_96 wd_135 (Nat.le_of_ble_eq_true rfl) rfl rfl ?_
  refine g_getf (ci := 0) (k := 1) d_170_99 wd_124 (Nat.le_of_ble_eq_true rfl) rfl rfl ?_
  exact g_reti d_170_102 rfl hq

theorem k_170_103 {X : GX} {d : Nat} {h : Hp} (hq : RtX X (some (.int ((-1)))) h) : G X d 170 103 [none, none] [] h := by
  refine g_iconst (v := (-1)) d_170_103 (by decide) ?_
  exact g_reti d_170_104 rfl hq

/-! 171 PlayedTruth.keep()I -/
theorem k_171_0 {X : GX} {d : Nat} {h : Hp} {d' : Nat} {Q' : Hp → Prop} (hdd : d' < d) (hC : CV d' 172 [.ref 64, .ref 1] h Q') (kk : ∀ h', Q' h' → G X d 171 11 [some (.ref 0)] [] h') : G X d 171 0 [some (.ref 0)] [] h := by
  refine g_aload_n d_171_0 rfl rfl ?_
  refine g_getf (ci := 8) (k := 9) d_171_1 wd_138 (Nat.le_of_ble_eq_true rfl) rfl rfl ?_
  refine g_aload_n d_171_4 rfl rfl ?_
  refine g_getf (ci := 8) (k := 0) d_171_5 wd_129 (Nat.le_of_ble_eq_true rfl) rfl rfl ?_
  exact g_callVV (mj := 172) 6 [.ref 1] [] d_171_8 wd_346 mo_172 mc_172 mv_172 rfl rfl rfl (Nat.le_of_ble_eq_true rfl) rfl hdd hC kk

theorem k_171_11 {X : GX} {d : Nat} {h : Hp} {d' : Nat} {Q' : Hp → Prop} (hdd : d' < d) (hC : CV d' 88 [.ref 76, .ref 13] h Q') (kk : ∀ h', Q' h' → G X d 171 22 [some (.ref 0)] [] h') : G X d 171 11 [some (.ref 0)] [] h := by
  refine g_aload_n d_171_11 rfl rfl ?_
  refine g_getf (ci := 8) (k := 10) d_171_12 wd_139 (Nat.le_of_ble_eq_true rfl) rfl rfl ?_
  refine g_aload_n d_171_15 rfl rfl ?_
  refine g_getf (ci := 8) (k := 1) d_171_16 wd_130 (Nat.le_of_ble_eq_true rfl) rfl rfl ?_
  exact g_callVV (mj := 88) 3 [.ref 13] [] d_171_19 wd_349 mo_88 mc_88 mv_88 rfl rfl rfl (Nat.le_of_ble_eq_true rfl) rfl hdd hC kk

theorem k_171_22 {X : GX} {d : Nat} {h : Hp} {d' : Nat} {Q' : Hp → Prop} (hdd : d' < d) (hC : CV d' 173 [.ref 79, .ref 16] h Q') (kk : ∀ h', Q' h' → G X d 171 33 [some (.ref 0)] [] h') : G X d 171 22 [some (.ref 0)] [] h := by
  refine g_aload_n d_171_22 rfl rfl ?_
  refine g_getf (ci := 8) (k := 11) d_171_23 wd_140 (Nat.le_of_ble_eq_true rfl) rfl rfl ?_
  refine g_aload_n d_171_26 rfl rfl ?_
  refine g_getf (ci := 8) (k := 2) d_171_27 wd_131 (Nat.le_of_ble_eq_true rfl) rfl rfl ?_
  exact g_callVV (mj := 173) 7 [.ref 16] [] d_171_30 wd_350 mo_173 mc_173 mv_173 rfl rfl rfl (Nat.le_of_ble_eq_true rfl) rfl hdd hC kk

theorem k_171_33 {X : GX} {d : Nat} {h : Hp} (hq : RtX X (some (.int 1)) (wr h 0 12 1)) : G X d 171 33 [some (.ref 0)] [] h := by
  refine g_aload_n d_171_33 rfl rfl ?_
  refine g_iconst (v := 1) d_171_34 (by decide) ?_
  refine g_putf (ci := 8) (k := 12) d_171_35 wd_141 (Nat.le_of_ble_eq_true rfl) (Nat.le_of_ble_eq_true rfl) rfl rfl (Or.inr ⟨rfl, rfl, z01_1⟩) rfl ?_
  refine g_iconst (v := 1) d_171_38 (by decide) ?_
  exact g_reti d_171_39 rfl hq

/-! 174 PlayedTruth.again()I -/
theorem k_174_0 {X : GX} {d : Nat} {h : Hp} (kt : ¬ (h 0 12) = 0 → G X d 174 10 [some (.ref 0)] [] h) (kf : (h 0 12) = 0 → G X d 174 7 [none] [] h) : G X d 174 0 [some (.ref 0)] [] h := by
  refine g_aload_n d_174_0 rfl rfl ?_
  refine g_getf (ci := 8) (k := 12) d_174_1 wd_141 (Nat.le_of_ble_eq_true rfl) rfl rfl ?_
  exact g_if_ne (tgt := 10) d_174_4 (by decide) kt (fun q => g_mask [false] (kf q))

theorem k_174_7 {X : GX} {d : Nat} {h : Hp} (hq : RtX X (some (.int ((-3)))) h) : G X d 174 7 [none] [] h := by
  refine g_bipush (v := (-3)) d_174_7 (by decide) ?_
  exact g_reti d_174_9 rfl hq

theorem k_174_10 {X : GX} {d : Nat} {h : Hp} {d' : Nat} {Q' : Hp → Prop} (hdd : d' < d) (hC : CV d' 172 [.ref 1, .ref 64] h Q') (kk : ∀ h', Q' h' → G X d 174 21 [some (.ref 0)] [] h') : G X d 174 10 [some (.ref 0)] [] h := by
  refine g_aload_n d_174_10 rfl rfl ?_
  refine g_getf (ci := 8) (k := 0) d_174_11 wd_129 (Nat.le_of_ble_eq_true rfl) rfl rfl ?_
  refine g_aload_n d_174_14 rfl rfl ?_
  refine g_getf (ci := 8) (k := 9) d_174_15 wd_138 (Nat.le_of_ble_eq_true rfl) rfl rfl ?_
  exact g_callVV (mj := 172) 6 [.ref 64] [] d_174_18 wd_346 mo_172 mc_172 mv_172 rfl rfl rfl (Nat.le_of_ble_eq_true rfl) rfl hdd hC kk

theorem k_174_21 {X : GX} {d : Nat} {h : Hp} {d' : Nat} {Q' : Hp → Prop} (hdd : d' < d) (hC : CV d' 88 [.ref 13, .ref 76] h Q') (kk : ∀ h', Q' h' → G X d 174 32 [some (.ref 0)] [] h') : G X d 174 21 [some (.ref 0)] [] h := by
  refine g_aload_n d_174_21 rfl rfl ?_
  refine g_getf (ci := 8) (k := 1) d_174_22 wd_130 (Nat.le_of_ble_eq_true rfl) rfl rfl ?_
  refine g_aload_n d_174_25 rfl rfl ?_
  refine g_getf (ci := 8) (k := 10) d_174_26 wd_139 (Nat.le_of_ble_eq_true rfl) rfl rfl ?_
  exact g_callVV (mj := 88) 3 [.ref 76] [] d_174_29 wd_349 mo_88 mc_88 mv_88 rfl rfl rfl (Nat.le_of_ble_eq_true rfl) rfl hdd hC kk

theorem k_174_32 {X : GX} {d : Nat} {h : Hp} {d' : Nat} {Q' : Hp → Prop} (hdd : d' < d) (hC : CV d' 173 [.ref 16, .ref 79] h Q') (kk : ∀ h', Q' h' → G X d 174 43 [some (.ref 0)] [] h') : G X d 174 32 [some (.ref 0)] [] h := by
  refine g_aload_n d_174_32 rfl rfl ?_
  refine g_getf (ci := 8) (k := 2) d_174_33 wd_131 (Nat.le_of_ble_eq_true rfl) rfl rfl ?_
  refine g_aload_n d_174_36 rfl rfl ?_
  refine g_getf (ci := 8) (k := 11) d_174_37 wd_140 (Nat.le_of_ble_eq_true rfl) rfl rfl ?_
  exact g_callVV (mj := 173) 7 [.ref 79] [] d_174_40 wd_350 mo_173 mc_173 mv_173 rfl rfl rfl (Nat.le_of_ble_eq_true rfl) rfl hdd hC kk

theorem k_174_43 {X : GX} {d : Nat} {h : Hp} (hq : RtX X (some (.int (h 1 7))) h) : G X d 174 43 [some (.ref 0)] [] h := by
  refine g_aload_n d_174_43 rfl rfl ?_
  refine g_getf (ci := 8) (k := 0) d_174_44 wd_129 (Nat.le_of_ble_eq_true rfl) rfl rfl ?_
  refine g_getf (ci := 6) (k := 7) d_174_47 wd_28 (Nat.le_of_ble_eq_true rfl) rfl rfl ?_
  exact g_reti d_174_50 rfl hq

