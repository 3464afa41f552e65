/-! 42 PlayedTruth$RuleReader.hasRoomFor(I)Z -/
theorem k_42_0 {X : GX} {d : Nat} {h : Hp} {v1 : Int32} (kt : 200 < ((h 21 1) + v1) → G X d 42 16 [none, none] [] h) (kf : ¬ 200 < ((h 21 1) + v1) → G X d 42 12 [none, none] [] h) : G X d 42 0 [some (.ref 21), some (.int v1)] [] h := by
  refine g_aload_n d_42_0 rfl rfl ?_
  refine g_getf (ci := 4) (k := 1) d_42_1 wd_75 (Nat.le_of_ble_eq_true rfl) rfl rfl ?_
  refine g_iload_n d_42_4 rfl rfl ?_
  refine g_iadd d_42_5 ?_
  refine g_sipush (v := 200) d_42_6 (by decide) ?_
  exact g_icmp_gt (tgt := 16) d_42_9 (by decide) (fun q => g_mask [false, false] (kt q)) (fun q => g_mask [false, false] (kf q))

theorem k_42_12 {X : GX} {d : Nat} {h : Hp} (hq : RtX X (some (.int 1)) h) : G X d 42 12 [none, none] [] h := by
  refine g_iconst (v := 1) d_42_12 (by decide) ?_
  refine g_goto (tgt := 17) d_42_13 (by decide) ?_
  exact g_retz d_42_17 rfl z01_1 hq

theorem k_42_16 {X : GX} {d : Nat} {h : Hp} (hq : RtX X (some (.int 0)) h) : G X d 42 16 [none, none] [] h := by
  refine g_iconst (v := 0) d_42_16 (by decide) ?_
  exact g_retz d_42_17 rfl z01_0 hq

/-! 43 PlayedTruth$RuleReader.take(JI)V -/
theorem k_43_0 {X : GX} {d : Nat} {h : Hp} {v1 : Int64} {v3 : Int32} (kk : G X d 43 3 [some (.ref 21), some (.long v1), none, some (.int v3), some (.int 0)] [] h) : G X d 43 0 [some (.ref 21), some (.long v1), none, some (.int v3), none] [] h := by
  refine g_iconst (v := 0) d_43_0 (by decide) ?_
  refine g_istore d_43_1 (Nat.le_of_ble_eq_true rfl) rfl ?_
  exact kk

theorem k_43_3 {X : GX} {d : Nat} {h : Hp} {v1 : Int64} {v3 : Int32} {v4 : Int32} (kt : v3 ≤ v4 → G X d 43 53 [none, none, none, none, none] [] h) (kf : ¬ v3 ≤ v4 → G X d 43 9 [some (.ref 21), some (.long v1), none, some (.int v3), some (.int v4)] [] h) : G X d 43 3 [some (.ref 21), some (.long v1), none, some (.int v3), some (.int v4)] [] h := by
  refine g_iload d_43_3 rfl ?_
  refine g_iload_n d_43_5 rfl rfl ?_
  exact g_icmp_ge (tgt := 53) d_43_6 (by decide) (fun q => g_mask [false, false, false, false, false] (kt q)) kf

theorem k_43_9 {X : GX} {d : Nat} {h : Hp} {v1 : Int64} {v3 : Int32} {v4 : Int32} (kt : 200 ≤ (h 21 1) → G X d 43 53 [none, none, none, none, none] [] h) (kf : ¬ 200 ≤ (h 21 1) → G X d 43 19 [some (.ref 21), some (.long v1), none, some (.int v3), some (.int v4)] [] h) : G X d 43 9 [some (.ref 21), some (.long v1), none, some (.int v3), some (.int v4)] [] h := by
  refine g_aload_n d_43_9 rfl rfl ?_
  refine g_getf (ci := 4) (k := 1) d_43_10 wd_75 (Nat.le_of_ble_eq_true rfl) rfl rfl ?_
  refine g_sipush (v := 200) d_43_13 (by decide) ?_
  exact g_icmp_ge (tgt := 53) d_43_16 (by decide) (fun q => g_mask [false, false, false, false, false] (kt q)) kf

theorem k_43_19 {X : GX} {d : Nat} {h : Hp} {v1 : Int64} {v3 : Int32} {v4 : Int32} (b0 : IA 22 (h 21 1)) (kk : G X d 43 3 [some (.ref 21), some (.long v1), none, some (.int v3), some (.int (v4 + 1))] [] (wr (wr h 21 1 ((h 21 1) + 1)) 22 (Int32.toNatClampNeg (h 21 1)) (Int64.toInt32 (((v1.toUInt64 >>> ((8 * v4 : Int32).toInt64.toUInt64 &&& Int64.toUInt64 63)).toInt64) &&& 255)))) : G X d 43 19 [some (.ref 21), some (.long v1), none, some (.int v3), some (.int v4)] [] h := by
  refine g_aload_n d_43_19 rfl rfl ?_
  refine g_getf (ci := 4) (k := 0) d_43_20 wd_74 (Nat.le_of_ble_eq_true rfl) rfl rfl ?_
  refine g_aload_n d_43_23 rfl rfl ?_
  refine g_dup d_43_24 rfl ?_
  refine g_getf (ci := 4) (k := 1) d_43_25 wd_75 (Nat.le_of_ble_eq_true rfl) rfl rfl ?_
  refine g_dup_x1 d_43_28 rfl rfl ?_
  refine g_iconst (v := 1) d_43_29 (by decide) ?_
  refine g_iadd d_43_30 ?_
  refine g_putf (ci := 4) (k := 1) d_43_31 wd_75 (Nat.le_of_ble_eq_true rfl) (Nat.le_of_ble_eq_true rfl) rfl rfl (Or.inl ⟨rfl, rfl⟩) rfl ?_
  refine g_lload_n d_43_34 rfl rfl ?_
  refine g_bipush (v := 8) d_43_35 (by decide) ?_
  refine g_iload d_43_37 rfl ?_
  refine g_imul d_43_39 ?_
  refine g_lushr d_43_40 ?_
  refine g_ldc2_w (v := 255) d_43_41 wd_181 ?_
  refine g_land d_43_44 ?_
  refine g_l2i d_43_45 ?_
  refine g_iast d_43_46 b0 ?_
  refine g_iinc (w := 1) d_43_47 rfl (by decide) (Nat.le_of_ble_eq_true rfl) rfl ?_
  refine g_goto (tgt := 3) d_43_50 (by decide) ?_
  exact kk

theorem k_43_53 {X : GX} {d : Nat} {h : Hp} (hq : RtX X none h) : G X d 43 53 [none, none, none, none, none] [] h := by
  exact g_retv d_43_53 rfl hq

/-! 45 PlayedTruth$RuleReader.readAndUseUp()Z -/
theorem k_45_0 {X : GX} {d : Nat} {h : Hp} {d' : Nat} {Q' : Hp → Prop} (hdd : d' < d) (hC : CV d' 46 [.ref 21] h Q') (kk : ∀ h', Q' h' → G X d 45 4 [some (.ref 21), none, none] [] h') : G X d 45 0 [some (.ref 21), none, none] [] h := by
  refine g_aload_n d_45_0 rfl rfl ?_
  exact g_callVV (mj := 46) 4 [] [] d_45_1 wd_184 mo_46 mc_46 mv_46 rfl rfl rfl (Nat.le_of_ble_eq_true rfl) rfl hdd hC kk

theorem k_45_4 {X : GX} {d : Nat} {h : Hp} {d' : Nat} {Q' : Hp → Prop} (hdd : d' < d) (hC : CV d' 65 [.ref 23] h Q') (kk : ∀ h', Q' h' → G X d 45 11 [some (.ref 21), none, none] [] h') : G X d 45 4 [some (.ref 21), none, none] [] h := by
  refine g_aload_n d_45_4 rfl rfl ?_
  refine g_getf (ci := 4) (k := 2) d_45_5 wd_77 (Nat.le_of_ble_eq_true rfl) rfl rfl ?_
  exact g_callVV (mj := 65) 5 [] [] d_45_8 wd_209 mo_65 mc_65 mv_65 rfl rfl rfl (Nat.le_of_ble_eq_true rfl) rfl hdd hC kk

theorem k_45_11 {X : GX} {d : Nat} {h : Hp} (b0 : IA 28 0) (kk : G X d 45 30 [some (.ref 21), some (.int 1), some (.int 0)] [] (wr (wr h 21 7 0) 21 8 ((wr h 21 7 0) 28 (Int32.toNatClampNeg 0)))) : G X d 45 11 [some (.ref 21), none, none] [] h := by
  refine g_aload_n d_45_11 rfl rfl ?_
  refine g_iconst (v := 0) d_45_12 (by decide) ?_
  refine g_putf (ci := 4) (k := 7) d_45_13 wd_84 (Nat.le_of_ble_eq_true rfl) (Nat.le_of_ble_eq_true rfl) rfl rfl (Or.inl ⟨rfl, rfl⟩) rfl ?_
  refine g_aload_n d_45_16 rfl rfl ?_
  refine g_aload_n d_45_17 rfl rfl ?_
  refine g_getf (ci := 4) (k := 4) d_45_18 wd_81 (Nat.le_of_ble_eq_true rfl) rfl rfl ?_
  refine g_iconst (v := 0) d_45_21 (by decide) ?_
  refine g_iald d_45_22 b0 ?_
  refine g_putf (ci := 4) (k := 8) d_45_23 wd_85 (Nat.le_of_ble_eq_true rfl) (Nat.le_of_ble_eq_true rfl) rfl rfl (Or.inl ⟨rfl, rfl⟩) rfl ?_
  refine g_iconst (v := 1) d_45_26 (by decide) ?_
  refine g_istore_n d_45_27 rfl (Nat.le_of_ble_eq_true rfl) rfl ?_
  refine g_iconst (v := 0) d_45_28 (by decide) ?_
  refine g_istore_n d_45_29 rfl (Nat.le_of_ble_eq_true rfl) rfl ?_
  exact kk

theorem k_45_30 {X : GX} {d : Nat} {h : Hp} {v1 : Int32} {v2 : Int32} (kt : 8 < v2 → G X d 45 60 [some (.ref 21), some (.int v1), none] [] h) (kf : ¬ 8 < v2 → G X d 45 36 [some (.ref 21), some (.int v1), some (.int v2)] [] h) : G X d 45 30 [some (.ref 21), some (.int v1), some (.int v2)] [] h := by
  refine g_iload_n d_45_30 rfl rfl ?_
  refine g_bipush (v := 8) d_45_31 (by decide) ?_
  exact g_icmp_gt (tgt := 60) d_45_33 (by decide) (fun q => g_mask [true, true, false] (kt q)) kf

theorem k_45_36 {X : GX} {d : Nat} {h : Hp} {v1 : Int32} {v2 : Int32} (kt : v1 = 0 → G X d 45 60 [some (.ref 21), some (.int v1), none] [] h) (kf : ¬ v1 = 0 → G X d 45 40 [some (.ref 21), some (.int v1), some (.int v2)] [] h) : G X d 45 36 [some (.ref 21), some (.int v1), some (.int v2)] [] h := by
  refine g_iload_n d_45_36 rfl rfl ?_
  exact g_if_eq (tgt := 60) d_45_37 (by decide) (fun q => g_mask [true, true, false] (kt q)) kf

theorem k_45_40 {X : GX} {d : Nat} {h : Hp} {v1 : Int32} {v2 : Int32} (kt : (h 21 8) = 27 → G X d 45 60 [some (.ref 21), some (.int v1), none] [] h) (kf : ¬ (h 21 8) = 27 → G X d 45 49 [some (.ref 21), none, some (.int v2)] [] h) : G X d 45 40 [some (.ref 21), some (.int v1), some (.int v2)] [] h := by
  refine g_aload_n d_45_40 rfl rfl ?_
  refine g_getf (ci := 4) (k := 8) d_45_41 wd_85 (Nat.le_of_ble_eq_true rfl) rfl rfl ?_
  refine g_bipush (v := 27) d_45_44 (by decide) ?_
  exact g_icmp_eq (tgt := 60) d_45_46 (by decide) (fun q => g_mask [true, true, false] (kt q)) (fun q => g_mask [true, false, true] (kf q))

theorem k_45_49 {X : GX} {d : Nat} {h : Hp} {v2 : Int32} {d' : Nat} {Q' : Int32 → Hp → Prop} (hdd : d' < d) (hC : CI d' 66 [.ref 21] h Q') (kk : ∀ x h', Q' x h' → G X d 45 53 [some (.ref 21), none, some (.int v2)] [.int x] h') : G X d 45 49 [some (.ref 21), none, some (.int v2)] [] h := by
  refine g_aload_n d_45_49 rfl rfl ?_
  exact g_callVI (mj := 66) 4 [] [] d_45_50 wd_210 mo_66 mc_66 mv_66 rfl rfl rfl (Nat.le_of_ble_eq_true rfl) rfl hdd hC kk

theorem k_45_53 {X : GX} {d : Nat} {h : Hp} {v2 : Int32} {s0 : Int32} (kk : G X d 45 30 [some (.ref 21), some (.int s0), some (.int (v2 + 1))] [] h) : G X d 45 53 [some (.ref 21), none, some (.int v2)] [.int s0] h := by
  refine g_istore_n d_45_53 rfl (Nat.le_of_ble_eq_true rfl) rfl ?_
  refine g_iinc (w := 1) d_45_54 rfl (by decide) (Nat.le_of_ble_eq_true rfl) rfl ?_
  refine g_goto (tgt := 30) d_45_57 (by decide) ?_
  exact kk

theorem k_45_60 {X : GX} {d : Nat} {h : Hp} {v1 : Int32} (z0 : v1 = 0 ∨ v1 = 1) (hq : RtX X (some (.int v1)) (wr h 21 1 0)) : G X d 45 60 [some (.ref 21), some (.int v1), none] [] h := by
  refine g_aload_n d_45_60 rfl rfl ?_
  refine g_iconst (v := 0) d_45_61 (by decide) ?_
  refine g_putf (ci := 4) (k := 1) d_45_62 wd_75 (Nat.le_of_ble_eq_true rfl) (Nat.le_of_ble_eq_true rfl) rfl rfl (Or.inl ⟨rfl, rfl⟩) rfl ?_
  refine g_iload_n d_45_65 rfl rfl ?_
  exact g_retz d_45_66 rfl z0 hq

/-! 46 PlayedTruth$RuleReader.split()V -/
theorem k_46_0 {X : GX} {d : Nat} {h : Hp} (kk : G X d 46 4 [some (.ref 21), some (.int 0), some (.int 0), none] [] h) : G X d 46 0 [some (.ref 21), none, none, none] [] h := by
  refine g_iconst (v := 0) d_46_0 (by decide) ?_
  refine g_istore_n d_46_1 rfl (Nat.le_of_ble_eq_true rfl) rfl ?_
  refine g_iconst (v := 0) d_46_2 (by decide) ?_
  refine g_istore_n d_46_3 rfl (Nat.le_of_ble_eq_true rfl) rfl ?_
  exact kk

theorem k_46_4 {X : GX} {d : Nat} {h : Hp} {v1 : Int32} {v2 : Int32} (kt : (h 21 1) ≤ v2 → G X d 46 91 [some (.ref 21), some (.int v1), none, none] [] h) (kf : ¬ (h 21 1) ≤ v2 → G X d 46 12 [some (.ref 21), some (.int v1), some (.int v2), none] [] h) : G X d 46 4 [some (.ref 21), some (.int v1), some (.int v2), none] [] h := by
  refine g_iload_n d_46_4 rfl rfl ?_
  refine g_aload_n d_46_5 rfl rfl ?_
  refine g_getf (ci := 4) (k := 1) d_46_6 wd_75 (Nat.le_of_ble_eq_true rfl) rfl rfl ?_
  exact g_icmp_ge (tgt := 91) d_46_9 (by decide) (fun q => g_mask [true, true, false, false] (kt q)) kf

theorem k_46_12 {X : GX} {d : Nat} {h : Hp} {v1 : Int32} {v2 : Int32} (b0 : IA 22 v2) (kt : ¬ (h 22 (Int32.toNatClampNeg v2)) = 32 → G X d 46 26 [some (.ref 21), some (.int v1), some (.int v2), none] [] h) (kf : (h 22 (Int32.toNatClampNeg v2)) = 32 → G X d 46 23 [some (.ref 21), some (.int v1), some (.int v2), none] [] h) : G X d 46 12 [some (.ref 21), some (.int v1), some (.int v2), none] [] h := by
  refine g_aload_n d_46_12 rfl rfl ?_
  refine g_getf (ci := 4) (k := 0) d_46_13 wd_74 (Nat.le_of_ble_eq_true rfl) rfl rfl ?_
  refine g_iload_n d_46_16 rfl rfl ?_
  refine g_iald d_46_17 b0 ?_
  refine g_bipush (v := 32) d_46_18 (by decide) ?_
  exact g_icmp_ne (tgt := 26) d_46_20 (by decide) kt kf

theorem k_46_23 {X : GX} {d : Nat} {h : Hp} {v1 : Int32} {v2 : Int32} (kk : G X d 46 4 [some (.ref 21), some (.int v1), some (.int (v2 + 1)), none] [] h) : G X d 46 23 [some (.ref 21), some (.int v1), some (.int v2), none] [] h := by
  refine g_goto (tgt := 85) d_46_23 (by decide) ?_
  refine g_iinc (w := 1) d_46_85 rfl (by decide) (Nat.le_of_ble_eq_true rfl) rfl ?_
  refine g_goto (tgt := 4) d_46_88 (by decide) ?_
  exact kk

theorem k_46_26 {X : GX} {d : Nat} {h : Hp} {v1 : Int32} {v2 : Int32} {d' : Nat} {Q' : Int32 → Hp → Prop} (hdd : d' < d) (hC : CI d' 47 [.ref 21, .int v2] h Q') (kk : ∀ x h', Q' x h' → G X d 46 31 [some (.ref 21), some (.int v1), some (.int v2), none] [.int x] h') : G X d 46 26 [some (.ref 21), some (.int v1), some (.int v2), none] [] h := by
  refine g_aload_n d_46_26 rfl rfl ?_
  refine g_iload_n d_46_27 rfl rfl ?_
  exact g_callVI (mj := 47) 4 [.int v2] [] d_46_28 wd_185 mo_47 mc_47 mv_47 rfl rfl rfl (Nat.le_of_ble_eq_true rfl) rfl hdd hC kk

theorem k_46_31 {X : GX} {d : Nat} {h : Hp} {v1 : Int32} {v2 : Int32} {s0 : Int32} {d' : Nat} {Q' : Int32 → Hp → Prop} (hdd : d' < d) (hC : CI d' 50 [.ref 21, .int v2, .int s0] h Q') (kk : ∀ x h', Q' x h' → G X d 46 43 [some (.ref 21), some (.int v1), some (.int v2), some (.int s0)] [.int x, .int v1, .ref 28] h') : G X d 46 31 [some (.ref 21), some (.int v1), some (.int v2), none] [.int s0] h := by
  refine g_istore_n d_46_31 rfl (Nat.le_of_ble_eq_true rfl) rfl ?_
  refine g_aload_n d_46_32 rfl rfl ?_
  refine g_getf (ci := 4) (k := 4) d_46_33 wd_81 (Nat.le_of_ble_eq_true rfl) rfl rfl ?_
  refine g_iload_n d_46_36 rfl rfl ?_
  refine g_aload_n d_46_37 rfl rfl ?_
  refine g_iload_n d_46_38 rfl rfl ?_
  refine g_iload_n d_46_39 rfl rfl ?_
  exact g_callVI (mj := 50) 4 [.int v2, .int s0] [.int v1, .ref 28] d_46_40 wd_188 mo_50 mc_50 mv_50 rfl rfl rfl (Nat.le_of_ble_eq_true rfl) rfl hdd hC kk

theorem k_46_43 {X : GX} {d : Nat} {h : Hp} {v1 : Int32} {v2 : Int32} {v3 : Int32} {s0 : Int32} {s1 : Int32} {s2 : Nat} (b0 : IA s2 s1) (b1 : IA 29 v1) (b2 : IA 28 v1) (kt : ¬ ((wr (wr h s2 (Int32.toNatClampNeg s1) s0) 29 (Int32.toNatClampNeg v1) v2) 28 (Int32.toNatClampNeg v1)) = 26 → G X d 46 76 [some (.ref 21), some (.int v1), none, some (.int v3)] [.int v1, .ref 30] (wr (wr h s2 (Int32.toNatClampNeg s1) s0) 29 (Int32.toNatClampNeg v1) v2)) (kf : ((wr (wr h s2 (Int32.toNatClampNeg s1) s0) 29 (Int32.toNatClampNeg v1) v2) 28 (Int32.toNatClampNeg v1)) = 26 → G X d 46 67 [some (.ref 21), some (.int v1), some (.int v2), some (.int v3)] [.int v1, .ref 30] (wr (wr h s2 (Int32.toNatClampNeg s1) s0) 29 (Int32.toNatClampNeg v1) v2)) : G X d 46 43 [some (.ref 21), some (.int v1), some (.int v2), some (.int v3)] [.int s0, .int s1, .ref s2] h := by
  refine g_iast d_46_43 b0 ?_
  refine g_aload_n d_46_44 rfl rfl ?_
  refine g_getf (ci := 4) (k := 5) d_46_45 wd_82 (Nat.le_of_ble_eq_true rfl) rfl rfl ?_
  refine g_iload_n d_46_48 rfl rfl ?_
  refine g_iload_n d_46_49 rfl rfl ?_
  refine g_iast d_46_50 b1 ?_
  refine g_aload_n d_46_51 rfl rfl ?_
  refine g_getf (ci := 4) (k := 6) d_46_52 wd_83 (Nat.le_of_ble_eq_true rfl) rfl rfl ?_
  refine g_iload_n d_46_55 rfl rfl ?_
  refine g_aload_n d_46_56 rfl rfl ?_
  refine g_getf (ci := 4) (k := 4) d_46_57 wd_81 (Nat.le_of_ble_eq_true rfl) rfl rfl ?_
  refine g_iload_n d_46_60 rfl rfl ?_
  refine g_iald d_46_61 b2 ?_
  refine g_bipush (v := 26) d_46_62 (by decide) ?_
  exact g_icmp_ne (tgt := 76) d_46_64 (by decide) (fun q => g_mask [true, true, false, true] (kt q)) kf

theorem k_46_67 {X : GX} {d : Nat} {h : Hp} {v1 : Int32} {v2 : Int32} {v3 : Int32} {s0 : Int32} {s1 : Nat} {d' : Nat} {Q' : Int32 → Hp → Prop} (hdd : d' < d) (hC : CI d' 64 [.ref 21, .int v2, .int v3] h Q') (kk : ∀ x h', Q' x h' → G X d 46 73 [some (.ref 21), some (.int v1), none, some (.int v3)] [.int x, .int s0, .ref s1] h') : G X d 46 67 [some (.ref 21), some (.int v1), some (.int v2), some (.int v3)] [.int s0, .ref s1] h := by
  refine g_aload_n d_46_67 rfl rfl ?_
  refine g_iload_n d_46_68 rfl rfl ?_
  refine g_iload_n d_46_69 rfl rfl ?_
  exact g_callVI (mj := 64) 4 [.int v2, .int v3] [.int s0, .ref s1] d_46_70 wd_208 mo_64 mc_64 mv_64 rfl rfl rfl (Nat.le_of_ble_eq_true rfl) rfl hdd hC (fun x h' q => g_mask [true, true, false, true] (kk x h' q))

theorem k_46_73 {X : GX} {d : Nat} {h : Hp} {v1 : Int32} {v3 : Int32} {s0 : Int32} {s1 : Int32} {s2 : Nat} (b0 : IA s2 s1) (kk : G X d 46 4 [some (.ref 21), some (.int (v1 + 1)), some (.int ((v3 - 1) + 1)), none] [] (wr h s2 (Int32.toNatClampNeg s1) s0)) : G X d 46 73 [some (.ref 21), some (.int v1), none, some (.int v3)] [.int s0, .int s1, .ref s2] h := by
  refine g_goto (tgt := 77) d_46_73 (by decide) ?_
  refine g_iast d_46_77 b0 ?_
  refine g_iinc (w := 1) d_46_78 rfl (by decide) (Nat.le_of_ble_eq_true rfl) rfl ?_
  refine g_iload_n d_46_81 rfl rfl ?_
  refine g_iconst (v := 1) d_46_82 (by decide) ?_
  refine g_isub d_46_83 ?_
  refine g_istore_n d_46_84 rfl (Nat.le_of_ble_eq_true rfl) rfl ?_
  refine g_iinc (w := 1) d_46_85 rfl (by decide) (Nat.le_of_ble_eq_true rfl) rfl ?_
  refine g_goto (tgt := 4) d_46_88 (by decide) ?_
  exact g_mask [true, true, true, false] kk

theorem k_46_76 {X : GX} {d : Nat} {h : Hp} {v1 : Int32} {v3 : Int32} {s0 : Int32} {s1 : Nat} (b0 : IA s1 s0) (kk : G X d 46 4 [some (.ref 21), some (.int (v1 + 1)), some (.int ((v3 - 1) + 1)), none] [] (wr h s1 (Int32.toNatClampNeg s0) 0)) : G X d 46 76 [some (.ref 21), some (.int v1), none, some (.int v3)] [.int s0, .ref s1] h := by
  refine g_iconst (v := 0) d_46_76 (by decide) ?_
  refine g_iast d_46_77 b0 ?_
  refine g_iinc (w := 1) d_46_78 rfl (by decide) (Nat.le_of_ble_eq_true rfl) rfl ?_
  refine g_iload_n d_46_81 rfl rfl ?_
  refine g_iconst (v := 1) d_46_82 (by decide) ?_
  refine g_isub d_46_83 ?_
  refine g_istore_n d_46_84 rfl (Nat.le_of_ble_eq_true rfl) rfl ?_
  refine g_iinc (w := 1) d_46_85 rfl (by decide) (Nat.le_of_ble_eq_true rfl) rfl ?_
  refine g_goto (tgt := 4) d_46_88 (by decide) ?_
  exact g_mask [true, true, true, false] kk

theorem k_46_91 {X : GX} {d : Nat} {h : Hp} {v1 : Int32} (b0 : IA 28 v1) (b1 : IA 29 v1) (hq : RtX X none (wr (wr h 28 (Int32.toNatClampNeg v1) 27) 29 (Int32.toNatClampNeg v1) ((wr h 28 (Int32.toNatClampNeg v1) 27) 21 1))) : G X d 46 91 [some (.ref 21), some (.int v1), none, none] [] h := by
  refine g_aload_n d_46_91 rfl rfl ?_
  refine g_getf (ci := 4) (k := 4) d_46_92 wd_81 (Nat.le_of_ble_eq_true rfl) rfl rfl ?_
  refine g_iload_n d_46_95 rfl rfl ?_
  refine g_bipush (v := 27) d_46_96 (by decide) ?_
  refine g_iast d_46_98 b0 ?_
  refine g_aload_n d_46_99 rfl rfl ?_
  refine g_getf (ci := 4) (k := 5) d_46_100 wd_82 (Nat.le_of_ble_eq_true rfl) rfl rfl ?_
  refine g_iload_n d_46_103 rfl rfl ?_
  refine g_aload_n d_46_104 rfl rfl ?_
  refine g_getf (ci := 4) (k := 1) d_46_105 wd_75 (Nat.le_of_ble_eq_true rfl) rfl rfl ?_
  refine g_iast d_46_108 b1 ?_
  exact g_retv d_46_109 rfl hq

/-! 47 PlayedTruth$RuleReader.endOfToken(I)I -/
theorem k_47_0 {X : GX} {d : Nat} {h : Hp} {v1 : Int32} {d' : Nat} {Q' : Int32 → Hp → Prop} (b0 : IA 22 v1) (hdd : d' < d) (hC : CI d' 48 [.int (h 22 (Int32.toNatClampNeg v1))] h Q') (kk : ∀ x h', Q' x h' → G X d 47 13 [some (.ref 21), some (.int v1), some (.int (v1 + 1))] [.int x] h') : G X d 47 0 [some (.ref 21), some (.int v1), none] [] h := by
  refine g_iload_n d_47_0 rfl rfl ?_
  refine g_iconst (v := 1) d_47_1 (by decide) ?_
  refine g_iadd d_47_2 ?_
  refine g_istore_n d_47_3 rfl (Nat.le_of_ble_eq_true rfl) rfl ?_
  refine g_aload_n d_47_4 rfl rfl ?_
  refine g_getf (ci := 4) (k := 0) d_47_5 wd_74 (Nat.le_of_ble_eq_true rfl) rfl rfl ?_
  refine g_iload_n d_47_8 rfl rfl ?_
  refine g_iald d_47_9 b0 ?_
  exact g_callSI (mj := 48) [.int (h 22 (Int32.toNatClampNeg v1))] [] d_47_10 wd_186 mo_48 mc_48 mv_48 rfl rfl (Nat.le_of_ble_eq_true rfl)  hdd hC kk

theorem k_47_13 {X : GX} {d : Nat} {h : Hp} {v1 : Int32} {v2 : Int32} {s0 : Int32} (kt : s0 = 0 → G X d 47 42 [some (.ref 21), some (.int v1), some (.int v2)] [] h) (kf : ¬ s0 = 0 → G X d 47 16 [some (.ref 21), none, some (.int v2)] [] h) : G X d 47 13 [some (.ref 21), some (.int v1), some (.int v2)] [.int s0] h := by
  exact g_if_eq (tgt := 42) d_47_13 (by decide) kt (fun q => g_mask [true, false, true] (kf q))

theorem k_47_16 {X : GX} {d : Nat} {h : Hp} {v2 : Int32} (kt : (h 21 1) ≤ v2 → G X d 47 80 [none, none, some (.int v2)] [] h) (kf : ¬ (h 21 1) ≤ v2 → G X d 47 24 [some (.ref 21), none, some (.int v2)] [] h) : G X d 47 16 [some (.ref 21), none, some (.int v2)] [] h := by
  refine g_iload_n d_47_16 rfl rfl ?_
  refine g_aload_n d_47_17 rfl rfl ?_
  refine g_getf (ci := 4) (k := 1) d_47_18 wd_75 (Nat.le_of_ble_eq_true rfl) rfl rfl ?_
  exact g_icmp_ge (tgt := 80) d_47_21 (by decide) (fun q => g_mask [false, false, true] (kt q)) kf

theorem k_47_24 {X : GX} {d : Nat} {h : Hp} {v2 : Int32} {d' : Nat} {Q' : Int32 → Hp → Prop} (b0 : IA 22 v2) (hdd : d' < d) (hC : CI d' 48 [.int (h 22 (Int32.toNatClampNeg v2))] h Q') (kk : ∀ x h', Q' x h' → G X d 47 33 [some (.ref 21), none, some (.int v2)] [.int x] h') : G X d 47 24 [some (.ref 21), none, some (.int v2)] [] h := by
  refine g_aload_n d_47_24 rfl rfl ?_
  refine g_getf (ci := 4) (k := 0) d_47_25 wd_74 (Nat.le_of_ble_eq_true rfl) rfl rfl ?_
  refine g_iload_n d_47_28 rfl rfl ?_
  refine g_iald d_47_29 b0 ?_
  exact g_callSI (mj := 48) [.int (h 22 (Int32.toNatClampNeg v2))] [] d_47_30 wd_186 mo_48 mc_48 mv_48 rfl rfl (Nat.le_of_ble_eq_true rfl)  hdd hC kk

theorem k_47_33 {X : GX} {d : Nat} {h : Hp} {v2 : Int32} {s0 : Int32} (kt : s0 = 0 → G X d 47 80 [none, none, some (.int v2)] [] h) (kf : ¬ s0 = 0 → G X d 47 36 [some (.ref 21), none, some (.int v2)] [] h) : G X d 47 33 [some (.ref 21), none, some (.int v2)] [.int s0] h := by
  exact g_if_eq (tgt := 80) d_47_33 (by decide) (fun q => g_mask [false, false, true] (kt q)) kf

theorem k_47_36 {X : GX} {d : Nat} {h : Hp} {v2 : Int32} (kk : G X d 47 16 [some (.ref 21), none, some (.int (v2 + 1))] [] h) : G X d 47 36 [some (.ref 21), none, some (.int v2)] [] h := by
  refine g_iinc (w := 1) d_47_36 rfl (by decide) (Nat.le_of_ble_eq_true rfl) rfl ?_
  refine g_goto (tgt := 16) d_47_39 (by decide) ?_
  exact kk

theorem k_47_42 {X : GX} {d : Nat} {h : Hp} {v1 : Int32} {v2 : Int32} {d' : Nat} {Q' : Int32 → Hp → Prop} (b0 : IA 22 v1) (hdd : d' < d) (hC : CI d' 49 [.int (h 22 (Int32.toNatClampNeg v1))] h Q') (kk : ∀ x h', Q' x h' → G X d 47 51 [some (.ref 21), none, some (.int v2)] [.int x] h') : G X d 47 42 [some (.ref 21), some (.int v1), some (.int v2)] [] h := by
  refine g_aload_n d_47_42 rfl rfl ?_
  refine g_getf (ci := 4) (k := 0) d_47_43 wd_74 (Nat.le_of_ble_eq_true rfl) rfl rfl ?_
  refine g_iload_n d_47_46 rfl rfl ?_
  refine g_iald d_47_47 b0 ?_
  exact g_callSI (mj := 49) [.int (h 22 (Int32.toNatClampNeg v1))] [] d_47_48 wd_187 mo_49 mc_49 mv_49 rfl rfl (Nat.le_of_ble_eq_true rfl)  hdd hC (fun x h' q => g_mask [true, false, true] (kk x h' q))

theorem k_47_51 {X : GX} {d : Nat} {h : Hp} {v2 : Int32} {s0 : Int32} (kt : s0 = 0 → G X d 47 80 [none, none, some (.int v2)] [] h) (kf : ¬ s0 = 0 → G X d 47 54 [some (.ref 21), none, some (.int v2)] [] h) : G X d 47 51 [some (.ref 21), none, some (.int v2)] [.int s0] h := by
  exact g_if_eq (tgt := 80) d_47_51 (by decide) (fun q => g_mask [false, false, true] (kt q)) kf

theorem k_47_54 {X : GX} {d : Nat} {h : Hp} {v2 : Int32} (kt : (h 21 1) ≤ v2 → G X d 47 80 [none, none, some (.int v2)] [] h) (kf : ¬ (h 21 1) ≤ v2 → G X d 47 62 [some (.ref 21), none, some (.int v2)] [] h) : G X d 47 54 [some (.ref 21), none, some (.int v2)] [] h := by
  refine g_iload_n d_47_54 rfl rfl ?_
  refine g_aload_n d_47_55 rfl rfl ?_
  refine g_getf (ci := 4) (k := 1) d_47_56 wd_75 (Nat.le_of_ble_eq_true rfl) rfl rfl ?_
  exact g_icmp_ge (tgt := 80) d_47_59 (by decide) (fun q => g_mask [false, false, true] (kt q)) kf

theorem k_47_62 {X : GX} {d : Nat} {h : Hp} {v2 : Int32} {d' : Nat} {Q' : Int32 → Hp → Prop} (b0 : IA 22 v2) (hdd : d' < d) (hC : CI d' 49 [.int (h 22 (Int32.toNatClampNeg v2))] h Q') (kk : ∀ x h', Q' x h' → G X d 47 71 [some (.ref 21), none, some (.int v2)] [.int x] h') : G X d 47 62 [some (.ref 21), none, some (.int v2)] [] h := by
  refine g_aload_n d_47_62 rfl rfl ?_
  refine g_getf (ci := 4) (k := 0) d_47_63 wd_74 (Nat.le_of_ble_eq_true rfl) rfl rfl ?_
  refine g_iload_n d_47_66 rfl rfl ?_
  refine g_iald d_47_67 b0 ?_
  exact g_callSI (mj := 49) [.int (h 22 (Int32.toNatClampNeg v2))] [] d_47_68 wd_187 mo_49 mc_49 mv_49 rfl rfl (Nat.le_of_ble_eq_true rfl)  hdd hC kk

theorem k_47_71 {X : GX} {d : Nat} {h : Hp} {v2 : Int32} {s0 : Int32} (kt : s0 = 0 → G X d 47 80 [none, none, some (.int v2)] [] h) (kf : ¬ s0 = 0 → G X d 47 74 [some (.ref 21), none, some (.int v2)] [] h) : G X d 47 71 [some (.ref 21), none, some (.int v2)] [.int s0] h := by
  exact g_if_eq (tgt := 80) d_47_71 (by decide) (fun q => g_mask [false, false, true] (kt q)) kf

theorem k_47_74 {X : GX} {d : Nat} {h : Hp} {v2 : Int32} (kk : G X d 47 54 [some (.ref 21), none, some (.int (v2 + 1))] [] h) : G X d 47 74 [some (.ref 21), none, some (.int v2)] [] h := by
  refine g_iinc (w := 1) d_47_74 rfl (by decide) (Nat.le_of_ble_eq_true rfl) rfl ?_
  refine g_goto (tgt := 54) d_47_77 (by decide) ?_
  exact kk

theorem k_47_80 {X : GX} {d : Nat} {h : Hp} {v2 : Int32} (hq : RtX X (some (.int v2)) h) : G X d 47 80 [none, none, some (.int v2)] [] h := by
  refine g_iload_n d_47_80 rfl rfl ?_
  exact g_reti d_47_81 rfl hq

/-! 48 PlayedTruth$RuleReader.isLetter(I)Z -/
theorem k_48_0 {X : GX} {d : Nat} {h : Hp} {v0 : Int32} (kt : v0 < 97 → G X d 48 16 [none] [] h) (kf : ¬ v0 < 97 → G X d 48 6 [some (.int v0)] [] h) : G X d 48 0 [some (.int v0)] [] h := by
  refine g_iload_n d_48_0 rfl rfl ?_
  refine g_bipush (v := 97) d_48_1 (by decide) ?_
  exact g_icmp_lt (tgt := 16) d_48_3 (by decide) (fun q => g_mask [false] (kt q)) kf

theorem k_48_6 {X : GX} {d : Nat} {h : Hp} {v0 : Int32} (kt : 122 < v0 → G X d 48 16 [none] [] h) (kf : ¬ 122 < v0 → G X d 48 12 [none] [] h) : G X d 48 6 [some (.int v0)] [] h := by
  refine g_iload_n d_48_6 rfl rfl ?_
  refine g_bipush (v := 122) d_48_7 (by decide) ?_
  exact g_icmp_gt (tgt := 16) d_48_9 (by decide) (fun q => g_mask [false] (kt q)) (fun q => g_mask [false] (kf q))

theorem k_48_12 {X : GX} {d : Nat} {h : Hp} (hq : RtX X (some (.int 1)) h) : G X d 48 12 [none] [] h := by
  refine g_iconst (v := 1) d_48_12 (by decide) ?_
  refine g_goto (tgt := 17) d_48_13 (by decide) ?_
  exact g_retz d_48_17 rfl z01_1 hq

theorem k_48_16 {X : GX} {d : Nat} {h : Hp} (hq : RtX X (some (.int 0)) h) : G X d 48 16 [none] [] h := by
  refine g_iconst (v := 0) d_48_16 (by decide) ?_
  exact g_retz d_48_17 rfl z01_0 hq

/-! 49 PlayedTruth$RuleReader.isDigit(I)Z -/
theorem k_49_0 {X : GX} {d : Nat} {h : Hp} {v0 : Int32} (kt : v0 < 48 → G X d 49 16 [none] [] h) (kf : ¬ v0 < 48 → G X d 49 6 [some (.int v0)] [] h) : G X d 49 0 [some (.int v0)] [] h := by
  refine g_iload_n d_49_0 rfl rfl ?_
  refine g_bipush (v := 48) d_49_1 (by decide) ?_
  exact g_icmp_lt (tgt := 16) d_49_3 (by decide) (fun q => g_mask [false] (kt q)) kf

theorem k_49_6 {X : GX} {d : Nat} {h : Hp} {v0 : Int32} (kt : 57 < v0 → G X d 49 16 [none] [] h) (kf : ¬ 57 < v0 → G X d 49 12 [none] [] h) : G X d 49 6 [some (.int v0)] [] h := by
  refine g_iload_n d_49_6 rfl rfl ?_
  refine g_bipush (v := 57) d_49_7 (by decide) ?_
  exact g_icmp_gt (tgt := 16) d_49_9 (by decide) (fun q => g_mask [false] (kt q)) (fun q => g_mask [false] (kf q))

theorem k_49_12 {X : GX} {d : Nat} {h : Hp} (hq : RtX X (some (.int 1)) h) : G X d 49 12 [none] [] h := by
  refine g_iconst (v := 1) d_49_12 (by decide) ?_
  refine g_goto (tgt := 17) d_49_13 (by decide) ?_
  exact g_retz d_49_17 rfl z01_1 hq

theorem k_49_16 {X : GX} {d : Nat} {h : Hp} (hq : RtX X (some (.int 0)) h) : G X d 49 16 [none] [] h := by
  refine g_iconst (v := 0) d_49_16 (by decide) ?_
  exact g_retz d_49_17 rfl z01_0 hq

/-! 50 PlayedTruth$RuleReader.tokenOf(II)I -/
theorem k_50_0 {X : GX} {d : Nat} {h : Hp} {v1 : Int32} {v2 : Int32} {d' : Nat} {Q' : Int32 → Hp → Prop} (b0 : IA 22 v1) (hdd : d' < d) (hC : CI d' 48 [.int (h 22 (Int32.toNatClampNeg v1))] h Q') (kk : ∀ x h', Q' x h' → G X d 50 9 [some (.ref 21), some (.int v1), some (.int v2)] [.int x] h') : G X d 50 0 [some (.ref 21), some (.int v1), some (.int v2)] [] h := by
  refine g_aload_n d_50_0 rfl rfl ?_
  refine g_getf (ci := 4) (k := 0) d_50_1 wd_74 (Nat.le_of_ble_eq_true rfl) rfl rfl ?_
  refine g_iload_n d_50_4 rfl rfl ?_
  refine g_iald d_50_5 b0 ?_
  exact g_callSI (mj := 48) [.int (h 22 (Int32.toNatClampNeg v1))] [] d_50_6 wd_186 mo_48 mc_48 mv_48 rfl rfl (Nat.le_of_ble_eq_true rfl)  hdd hC kk

theorem k_50_9 {X : GX} {d : Nat} {h : Hp} {v1 : Int32} {v2 : Int32} {s0 : Int32} (kt : s0 = 0 → G X d 50 19 [some (.ref 21), some (.int v1), some (.int v2)] [] h) (kf : ¬ s0 = 0 → G X d 50 12 [some (.ref 21), some (.int v1), some (.int v2)] [] h) : G X d 50 9 [some (.ref 21), some (.int v1), some (.int v2)] [.int s0] h := by
  exact g_if_eq (tgt := 19) d_50_9 (by decide) kt kf

theorem k_50_12 {X : GX} {d : Nat} {h : Hp} {v1 : Int32} {v2 : Int32} {d' : Nat} {Q' : Int32 → Hp → Prop} (hdd : d' < d) (hC : CI d' 51 [.ref 21, .int v1, .int v2] h Q') (kk : ∀ x h', Q' x h' → G X d 50 18 [none, none, none] [.int x] h') : G X d 50 12 [some (.ref 21), some (.int v1), some (.int v2)] [] h := by
  refine g_aload_n d_50_12 rfl rfl ?_
  refine g_iload_n d_50_13 rfl rfl ?_
  refine g_iload_n d_50_14 rfl rfl ?_
  exact g_callVI (mj := 51) 4 [.int v1, .int v2] [] d_50_15 wd_189 mo_51 mc_51 mv_51 rfl rfl rfl (Nat.le_of_ble_eq_true rfl) rfl hdd hC (fun x h' q => g_mask [false, false, false] (kk x h' q))

theorem k_50_18 {X : GX} {d : Nat} {h : Hp} {s0 : Int32} (hq : RtX X (some (.int s0)) h) : G X d 50 18 [none, none, none] [.int s0] h := by
  exact g_reti d_50_18 rfl hq

theorem k_50_19 {X : GX} {d : Nat} {h : Hp} {v1 : Int32} {v2 : Int32} {d' : Nat} {Q' : Int32 → Hp → Prop} (b0 : IA 22 v1) (hdd : d' < d) (hC : CI d' 49 [.int (h 22 (Int32.toNatClampNeg v1))] h Q') (kk : ∀ x h', Q' x h' → G X d 50 28 [some (.ref 21), some (.int v1), some (.int v2)] [.int x] h') : G X d 50 19 [some (.ref 21), some (.int v1), some (.int v2)] [] h := by
  refine g_aload_n d_50_19 rfl rfl ?_
  refine g_getf (ci := 4) (k := 0) d_50_20 wd_74 (Nat.le_of_ble_eq_true rfl) rfl rfl ?_
  refine g_iload_n d_50_23 rfl rfl ?_
  refine g_iald d_50_24 b0 ?_
  exact g_callSI (mj := 49) [.int (h 22 (Int32.toNatClampNeg v1))] [] d_50_25 wd_187 mo_49 mc_49 mv_49 rfl rfl (Nat.le_of_ble_eq_true rfl)  hdd hC kk

theorem k_50_28 {X : GX} {d : Nat} {h : Hp} {v1 : Int32} {v2 : Int32} {s0 : Int32} (kt : s0 = 0 → G X d 50 46 [some (.ref 21), some (.int v1), none] [] h) (kf : ¬ s0 = 0 → G X d 50 31 [none, some (.int v1), some (.int v2)] [] h) : G X d 50 28 [some (.ref 21), some (.int v1), some (.int v2)] [.int s0] h := by
  exact g_if_eq (tgt := 46) d_50_28 (by decide) (fun q => g_mask [true, true, false] (kt q)) (fun q => g_mask [false, true, true] (kf q))

theorem k_50_31 {X : GX} {d : Nat} {h : Hp} {v1 : Int32} {v2 : Int32} (kt : 4 < (v2 - v1) → G X d 50 43 [none, none, none] [] h) (kf : ¬ 4 < (v2 - v1) → G X d 50 38 [none, none, none] [] h) : G X d 50 31 [none, some (.int v1), some (.int v2)] [] h := by
  refine g_iload_n d_50_31 rfl rfl ?_
  refine g_iload_n d_50_32 rfl rfl ?_
  refine g_isub d_50_33 ?_
  refine g_iconst (v := 4) d_50_34 (by decide) ?_
  exact g_icmp_gt (tgt := 43) d_50_35 (by decide) (fun q => g_mask [false, false, false] (kt q)) (fun q => g_mask [false, false, false] (kf q))

theorem k_50_38 {X : GX} {d : Nat} {h : Hp} (hq : RtX X (some (.int 26)) h) : G X d 50 38 [none, none, none] [] h := by
  refine g_bipush (v := 26) d_50_38 (by decide) ?_
  refine g_goto (tgt := 45) d_50_40 (by decide) ?_
  exact g_reti d_50_45 rfl hq

theorem k_50_43 {X : GX} {d : Nat} {h : Hp} (hq : RtX X (some (.int 28)) h) : G X d 50 43 [none, none, none] [] h := by
  refine g_bipush (v := 28) d_50_43 (by decide) ?_
  exact g_reti d_50_45 rfl hq

theorem k_50_46 {X : GX} {d : Nat} {h : Hp} {v1 : Int32} (b0 : IA 22 v1) (k0 : (h 22 (Int32.toNatClampNeg v1)) = 40 → G X d 50 121 [none, none, none] [] h) (k1 : (h 22 (Int32.toNatClampNeg v1)) = 41 → G X d 50 124 [none, none, none] [] h) (k2 : (h 22 (Int32.toNatClampNeg v1)) = 59 → G X d 50 127 [none, none, none] [] h) (k3 : (h 22 (Int32.toNatClampNeg v1)) = 60 → G X d 50 112 [none, none, none] [] h) (k4 : (h 22 (Int32.toNatClampNeg v1)) = 61 → G X d 50 115 [none, none, none] [] h) (k5 : (h 22 (Int32.toNatClampNeg v1)) = 62 → G X d 50 118 [none, none, none] [] h) (kd : ¬ (h 22 (Int32.toNatClampNeg v1)) = 40 → ¬ (h 22 (Int32.toNatClampNeg v1)) = 41 → ¬ (h 22 (Int32.toNatClampNeg v1)) = 59 → ¬ (h 22 (Int32.toNatClampNeg v1)) = 60 → ¬ (h 22 (Int32.toNatClampNeg v1)) = 61 → ¬ (h 22 (Int32.toNatClampNeg v1)) = 62 → G X d 50 130 [none, none, none] [] h) : G X d 50 46 [some (.ref 21), some (.int v1), none] [] h := by
  refine g_aload_n d_50_46 rfl rfl ?_
  refine g_getf (ci := 4) (k := 0) d_50_47 wd_74 (Nat.le_of_ble_eq_true rfl) rfl rfl ?_
  refine g_iload_n d_50_50 rfl rfl ?_
  refine g_iald d_50_51 b0 ?_
  exact g_lookup (tls := [(40, 121), (41, 124), (59, 127), (60, 112), (61, 115), (62, 118)]) (df := 130) d_50_52 (by decide +kernel) ⟨fun q => g_mask [false, false, false] (k0 q), fun n0 => ⟨fun q => g_mask [false, false, false] (k1 q), fun n1 => ⟨fun q => g_mask [false, false, false] (k2 q), fun n2 => ⟨fun q => g_mask [false, false, false] (k3 q), fun n3 => ⟨fun q => g_mask [false, false, false] (k4 q), fun n4 => ⟨fun q => g_mask [false, false, false] (k5 q), fun n5 => (g_mask [false, false, false] (kd n0 n1 n2 n3 n4 n5))⟩⟩⟩⟩⟩⟩

theorem k_50_112 {X : GX} {d : Nat} {h : Hp} (hq : RtX X (some (.int 20)) h) : G X d 50 112 [none, none, none] [] h := by
  refine g_bipush (v := 20) d_50_112 (by decide) ?_
  exact g_reti d_50_114 rfl hq

theorem k_50_115 {X : GX} {d : Nat} {h : Hp} (hq : RtX X (some (.int 21)) h) : G X d 50 115 [none, none, none] [] h := by
  refine g_bipush (v := 21) d_50_115 (by decide) ?_
  exact g_reti d_50_117 rfl hq

theorem k_50_118 {X : GX} {d : Nat} {h : Hp} (hq : RtX X (some (.int 22)) h) : G X d 50 118 [none, none, none] [] h := by
  refine g_bipush (v := 22) d_50_118 (by decide) ?_
  exact g_reti d_50_120 rfl hq

theorem k_50_121 {X : GX} {d : Nat} {h : Hp} (hq : RtX X (some (.int 23)) h) : G X d 50 121 [none, none, none] [] h := by
  refine g_bipush (v := 23) d_50_121 (by decide) ?_
  exact g_reti d_50_123 rfl hq

theorem k_50_124 {X : GX} {d : Nat} {h : Hp} (hq : RtX X (some (.int 24)) h) : G X d 50 124 [none, none, none] [] h := by
  refine g_bipush (v := 24) d_50_124 (by decide) ?_
  exact g_reti d_50_126 rfl hq

theorem k_50_127 {X : GX} {d : Nat} {h : Hp} (hq : RtX X (some (.int 25)) h) : G X d 50 127 [none, none, none] [] h := by
  refine g_bipush (v := 25) d_50_127 (by decide) ?_
  exact g_reti d_50_129 rfl hq

theorem k_50_130 {X : GX} {d : Nat} {h : Hp} (hq : RtX X (some (.int 28)) h) : G X d 50 130 [none, none, none] [] h := by
  refine g_bipush (v := 28) d_50_130 (by decide) ?_
  exact g_reti d_50_132 rfl hq

/-! 51 PlayedTruth$RuleReader.wordOf(II)I -/
theorem k_51_0 {X : GX} {d : Nat} {h : Hp} {v1 : Int32} {v2 : Int32} (kk : G X d 51 8 [some (.ref 21), some (.int v1), some (.int v2), some (.int 0), some (.int 0), some (.int 0)] [] h) : G X d 51 0 [some (.ref 21), some (.int v1), some (.int v2), none, none, none] [] h := by
  refine g_iconst (v := 0) d_51_0 (by decide) ?_
  refine g_istore_n d_51_1 rfl (Nat.le_of_ble_eq_true rfl) rfl ?_
  refine g_iconst (v := 0) d_51_2 (by decide) ?_
  refine g_istore d_51_3 (Nat.le_of_ble_eq_true rfl) rfl ?_
  refine g_iconst (v := 0) d_51_5 (by decide) ?_
  refine g_istore d_51_6 (Nat.le_of_ble_eq_true rfl) rfl ?_
  exact kk

theorem k_51_15 {X : GX} {d : Nat} {h : Hp} {v1 : Int32} {v2 : Int32} {v3 : Int32} {v4 : Int32} {v5 : Int32} {s0 : Int32} {s1 : Int32} (kt : s0 ≤ s1 → G X d 51 63 [none, none, none, none, none, none] [] h) (kf : ¬ s0 ≤ s1 → G X d 51 18 [some (.ref 21), some (.int v1), some (.int v2), some (.int v3), some (.int v4), some (.int v5)] [] h) : G X d 51 15 [some (.ref 21), some (.int v1), some (.int v2), some (.int v3), some (.int v4), some (.int v5)] [.int s0, .int s1] h := by
  exact g_icmp_ge (tgt := 63) d_51_15 (by decide) (fun q => g_mask [false, false, false, false, false, false] (kt q)) kf

theorem k_51_25 {X : GX} {d : Nat} {h : Hp} {v1 : Int32} {v2 : Int32} {v3 : Int32} {v4 : Int32} {v5 : Int32} {s0 : Int32} (kt : s0 = 32 → G X d 51 33 [some (.ref 21), some (.int v1), some (.int v2), some (.int v3), some (.int v4), some (.int v5)] [] h) (kf : ¬ s0 = 32 → G X d 51 30 [some (.ref 21), some (.int v1), some (.int v2), some (.int v3), some (.int v4), some (.int v5)] [] h) : G X d 51 25 [some (.ref 21), some (.int v1), some (.int v2), some (.int v3), some (.int v4), some (.int v5)] [.int s0] h := by
  refine g_bipush (v := 32) d_51_25 (by decide) ?_
  exact g_icmp_eq (tgt := 33) d_51_27 (by decide) kt kf

theorem k_51_30 {X : GX} {d : Nat} {h : Hp} {v1 : Int32} {v2 : Int32} {v3 : Int32} {v4 : Int32} {v5 : Int32} (kk : G X d 51 8 [some (.ref 21), some (.int v1), some (.int v2), some (.int v3), some (.int v4), some (.int (v5 + 1))] [] h) : G X d 51 30 [some (.ref 21), some (.int v1), some (.int v2), some (.int v3), some (.int v4), some (.int v5)] [] h := by
  refine g_goto (tgt := 57) d_51_30 (by decide) ?_
  refine g_iinc (w := 1) d_51_57 rfl (by decide) (Nat.le_of_ble_eq_true rfl) rfl ?_
  refine g_goto (tgt := 8) d_51_60 (by decide) ?_
  exact kk

theorem k_51_33 {X : GX} {d : Nat} {h : Hp} {v1 : Int32} {v2 : Int32} {v3 : Int32} {v4 : Int32} {v5 : Int32} {d' : Nat} {Q' : Int32 → Hp → Prop} (hdd : d' < d) (hC : CI d' 63 [.ref 21, .int v1, .int v2, .int v4, .int v5] h Q') (kk : ∀ x h', Q' x h' → G X d 51 43 [some (.ref 21), some (.int v1), some (.int v2), some (.int v3), none, some (.int v5)] [.int x] h') : G X d 51 33 [some (.ref 21), some (.int v1), some (.int v2), some (.int v3), some (.int v4), some (.int v5)] [] h := by
  refine g_aload_n d_51_33 rfl rfl ?_
  refine g_iload_n d_51_34 rfl rfl ?_
  refine g_iload_n d_51_35 rfl rfl ?_
  refine g_iload d_51_36 rfl ?_
  refine g_iload d_51_38 rfl ?_
  exact g_callVI (mj := 63) 4 [.int v1, .int v2, .int v4, .int v5] [] d_51_40 wd_207 mo_63 mc_63 mv_63 rfl rfl rfl (Nat.le_of_ble_eq_true rfl) rfl hdd hC (fun x h' q => g_mask [true, true, true, true, false, true] (kk x h' q))

theorem k_51_43 {X : GX} {d : Nat} {h : Hp} {v1 : Int32} {v2 : Int32} {v3 : Int32} {v5 : Int32} {s0 : Int32} (kt : s0 = 0 → G X d 51 48 [some (.ref 21), some (.int v1), some (.int v2), some (.int v3), none, some (.int v5)] [] h) (kf : ¬ s0 = 0 → G X d 51 46 [none, none, none, some (.int v3), none, none] [] h) : G X d 51 43 [some (.ref 21), some (.int v1), some (.int v2), some (.int v3), none, some (.int v5)] [.int s0] h := by
  exact g_if_eq (tgt := 48) d_51_43 (by decide) kt (fun q => g_mask [false, false, false, true, false, false] (kf q))

theorem k_51_46 {X : GX} {d : Nat} {h : Hp} {v3 : Int32} (hq : RtX X (some (.int v3)) h) : G X d 51 46 [none, none, none, some (.int v3), none, none] [] h := by
  refine g_iload_n d_51_46 rfl rfl ?_
  exact g_reti d_51_47 rfl hq

theorem k_51_48 {X : GX} {d : Nat} {h : Hp} {v1 : Int32} {v2 : Int32} {v3 : Int32} {v5 : Int32} (kk : G X d 51 8 [some (.ref 21), some (.int v1), some (.int v2), some (.int (v3 + 1)), some (.int (v5 + 1)), some (.int (v5 + 1))] [] h) : G X d 51 48 [some (.ref 21), some (.int v1), some (.int v2), some (.int v3), none, some (.int v5)] [] h := by
  refine g_iinc (w := 1) d_51_48 rfl (by decide) (Nat.le_of_ble_eq_true rfl) rfl ?_
  refine g_iload d_51_51 rfl ?_
  refine g_iconst (v := 1) d_51_53 (by decide) ?_
  refine g_iadd d_51_54 ?_
  refine g_istore d_51_55 (Nat.le_of_ble_eq_true rfl) rfl ?_
  refine g_iinc (w := 1) d_51_57 rfl (by decide) (Nat.le_of_ble_eq_true rfl) rfl ?_
  refine g_goto (tgt := 8) d_51_60 (by decide) ?_
  exact kk

theorem k_51_63 {X : GX} {d : Nat} {h : Hp} (hq : RtX X (some (.int 28)) h) : G X d 51 63 [none, none, none, none, none, none] [] h := by
  refine g_bipush (v := 28) d_51_63 (by decide) ?_
  exact g_reti d_51_65 rfl hq

/-! 63 PlayedTruth$RuleReader.isSpelt(IIII)Z -/
theorem k_63_0 {X : GX} {d : Nat} {h : Hp} {v1 : Int32} {v2 : Int32} {v3 : Int32} {v4 : Int32} (kt : (v2 - v1) = (v4 - v3) → G X d 63 12 [some (.ref 21), some (.int v1), some (.int v2), some (.int v3), none, none] [] h) (kf : ¬ (v2 - v1) = (v4 - v3) → G X d 63 10 [none, none, none, none, none, none] [] h) : G X d 63 0 [some (.ref 21), some (.int v1), some (.int v2), some (.int v3), some (.int v4), none] [] h := by
  refine g_iload_n d_63_0 rfl rfl ?_
  refine g_iload_n d_63_1 rfl rfl ?_
  refine g_isub d_63_2 ?_
  refine g_iload d_63_3 rfl ?_
  refine g_iload_n d_63_5 rfl rfl ?_
  refine g_isub d_63_6 ?_
  exact g_icmp_eq (tgt := 12) d_63_7 (by decide) (fun q => g_mask [true, true, true, true, false, false] (kt q)) (fun q => g_mask [false, false, false, false, false, false] (kf q))

theorem k_63_10 {X : GX} {d : Nat} {h : Hp} (hq : RtX X (some (.int 0)) h) : G X d 63 10 [none, none, none, none, none, none] [] h := by
  refine g_iconst (v := 0) d_63_10 (by decide) ?_
  exact g_retz d_63_11 rfl z01_0 hq

theorem k_63_12 {X : GX} {d : Nat} {h : Hp} {v1 : Int32} {v2 : Int32} {v3 : Int32} (kk : G X d 63 15 [some (.ref 21), some (.int v1), some (.int v2), some (.int v3), none, some (.int 0)] [] h) : G X d 63 12 [some (.ref 21), some (.int v1), some (.int v2), some (.int v3), none, none] [] h := by
  refine g_iconst (v := 0) d_63_12 (by decide) ?_
  refine g_istore d_63_13 (Nat.le_of_ble_eq_true rfl) rfl ?_
  exact kk

theorem k_63_15 {X : GX} {d : Nat} {h : Hp} {v1 : Int32} {v2 : Int32} {v3 : Int32} {v5 : Int32} (kt : (v2 - v1) ≤ v5 → G X d 63 52 [none, none, none, none, none, none] [] h) (kf : ¬ (v2 - v1) ≤ v5 → G X d 63 23 [some (.ref 21), some (.int v1), some (.int v2), some (.int v3), none, some (.int v5)] [] h) : G X d 63 15 [some (.ref 21), some (.int v1), some (.int v2), some (.int v3), none, some (.int v5)] [] h := by
  refine g_iload d_63_15 rfl ?_
  refine g_iload_n d_63_17 rfl rfl ?_
  refine g_iload_n d_63_18 rfl rfl ?_
  refine g_isub d_63_19 ?_
  exact g_icmp_ge (tgt := 52) d_63_20 (by decide) (fun q => g_mask [false, false, false, false, false, false] (kt q)) kf

theorem k_63_41 {X : GX} {d : Nat} {h : Hp} {v1 : Int32} {v2 : Int32} {v3 : Int32} {v5 : Int32} {s0 : Int32} {s1 : Int32} (kt : s1 = s0 → G X d 63 46 [some (.ref 21), some (.int v1), some (.int v2), some (.int v3), none, some (.int v5)] [] h) (kf : ¬ s1 = s0 → G X d 63 44 [none, none, none, none, none, none] [] h) : G X d 63 41 [some (.ref 21), some (.int v1), some (.int v2), some (.int v3), none, some (.int v5)] [.int s0, .int s1] h := by
  exact g_icmp_eq (tgt := 46) d_63_41 (by decide) kt (fun q => g_mask [false, false, false, false, false, false] (kf q))

theorem k_63_44 {X : GX} {d : Nat} {h : Hp} (hq : RtX X (some (.int 0)) h) : G X d 63 44 [none, none, none, none, none, none] [] h := by
  refine g_iconst (v := 0) d_63_44 (by decide) ?_
  exact g_retz d_63_45 rfl z01_0 hq

theorem k_63_46 {X : GX} {d : Nat} {h : Hp} {v1 : Int32} {v2 : Int32} {v3 : Int32} {v5 : Int32} (kk : G X d 63 15 [some (.ref 21), some (.int v1), some (.int v2), some (.int v3), none, some (.int (v5 + 1))] [] h) : G X d 63 46 [some (.ref 21), some (.int v1), some (.int v2), some (.int v3), none, some (.int v5)] [] h := by
  refine g_iinc (w := 1) d_63_46 rfl (by decide) (Nat.le_of_ble_eq_true rfl) rfl ?_
  refine g_goto (tgt := 15) d_63_49 (by decide) ?_
  exact kk

theorem k_63_52 {X : GX} {d : Nat} {h : Hp} (hq : RtX X (some (.int 1)) h) : G X d 63 52 [none, none, none, none, none, none] [] h := by
  refine g_iconst (v := 1) d_63_52 (by decide) ?_
  exact g_retz d_63_53 rfl z01_1 hq

/-! 64 PlayedTruth$RuleReader.numberOf(II)I -/
theorem k_64_0 {X : GX} {d : Nat} {h : Hp} {v1 : Int32} {v2 : Int32} (kk : G X d 64 5 [some (.ref 21), none, some (.int v2), some (.int 0), some (.int v1)] [] h) : G X d 64 0 [some (.ref 21), some (.int v1), some (.int v2), none, none] [] h := by
  refine g_iconst (v := 0) d_64_0 (by decide) ?_
  refine g_istore_n d_64_1 rfl (Nat.le_of_ble_eq_true rfl) rfl ?_
  refine g_iload_n d_64_2 rfl rfl ?_
  refine g_istore d_64_3 (Nat.le_of_ble_eq_true rfl) rfl ?_
  exact g_mask [true, false, true, true, true] kk

theorem k_64_5 {X : GX} {d : Nat} {h : Hp} {v2 : Int32} {v3 : Int32} {v4 : Int32} (kt : v2 ≤ v4 → G X d 64 33 [none, none, none, some (.int v3), none] [] h) (kf : ¬ v2 ≤ v4 → G X d 64 11 [some (.ref 21), none, some (.int v2), some (.int v3), some (.int v4)] [] h) : G X d 64 5 [some (.ref 21), none, some (.int v2), some (.int v3), some (.int v4)] [] h := by
  refine g_iload d_64_5 rfl ?_
  refine g_iload_n d_64_7 rfl rfl ?_
  exact g_icmp_ge (tgt := 33) d_64_8 (by decide) (fun q => g_mask [false, false, false, true, false] (kt q)) kf

theorem k_64_11 {X : GX} {d : Nat} {h : Hp} {v2 : Int32} {v3 : Int32} {v4 : Int32} (b0 : IA 22 v4) (kk : G X d 64 5 [some (.ref 21), none, some (.int v2), some (.int (((v3 * 10) + (h 22 (Int32.toNatClampNeg v4))) - 48)), some (.int (v4 + 1))] [] h) : G X d 64 11 [some (.ref 21), none, some (.int v2), some (.int v3), some (.int v4)] [] h := by
  refine g_iload_n d_64_11 rfl rfl ?_
  refine g_bipush (v := 10) d_64_12 (by decide) ?_
  refine g_imul d_64_14 ?_
  refine g_aload_n d_64_15 rfl rfl ?_
  refine g_getf (ci := 4) (k := 0) d_64_16 wd_74 (Nat.le_of_ble_eq_true rfl) rfl rfl ?_
  refine g_iload d_64_19 rfl ?_
  refine g_iald d_64_21 b0 ?_
  refine g_iadd d_64_22 ?_
  refine g_bipush (v := 48) d_64_23 (by decide) ?_
  refine g_isub d_64_25 ?_
  refine g_istore_n d_64_26 rfl (Nat.le_of_ble_eq_true rfl) rfl ?_
  refine g_iinc (w := 1) d_64_27 rfl (by decide) (Nat.le_of_ble_eq_true rfl) rfl ?_
  refine g_goto (tgt := 5) d_64_30 (by decide) ?_
  exact kk

theorem k_64_33 {X : GX} {d : Nat} {h : Hp} {v3 : Int32} (hq : RtX X (some (.int v3)) h) : G X d 64 33 [none, none, none, some (.int v3), none] [] h := by
  refine g_iload_n d_64_33 rfl rfl ?_
  exact g_reti d_64_34 rfl hq

/-! 66 PlayedTruth$RuleReader.readRule()Z -/
theorem k_66_0 {X : GX} {d : Nat} {h : Hp} (kt : 8 ≤ (h 23 5) → G X d 66 20 [some (.ref 21), none, none] [] h) (kf : ¬ 8 ≤ (h 23 5) → G X d 66 12 [some (.ref 21), none, none] [] h) : G X d 66 0 [some (.ref 21), none, none] [] h := by
  refine g_aload_n d_66_0 rfl rfl ?_
  refine g_getf (ci := 4) (k := 2) d_66_1 wd_77 (Nat.le_of_ble_eq_true rfl) rfl rfl ?_
  refine g_getf (ci := 5) (k := 5) d_66_4 wd_11 (Nat.le_of_ble_eq_true rfl) rfl rfl ?_
  refine g_bipush (v := 8) d_66_7 (by decide) ?_
  exact g_icmp_ge (tgt := 20) d_66_9 (by decide) kt kf

theorem k_66_12 {X : GX} {d : Nat} {h : Hp} (kt : (h 21 8) ≤ 5 → G X d 66 25 [some (.ref 21), none, none] [] h) (kf : ¬ (h 21 8) ≤ 5 → G X d 66 20 [some (.ref 21), none, none] [] h) : G X d 66 12 [some (.ref 21), none, none] [] h := by
  refine g_aload_n d_66_12 rfl rfl ?_
  refine g_getf (ci := 4) (k := 8) d_66_13 wd_85 (Nat.le_of_ble_eq_true rfl) rfl rfl ?_
  refine g_iconst (v := 5) d_66_16 (by decide) ?_
  exact g_icmp_le (tgt := 25) d_66_17 (by decide) kt kf

theorem k_66_20 {X : GX} {d : Nat} {h : Hp} {d' : Nat} {Q' : Int32 → Hp → Prop} (hdd : d' < d) (hC : CI d' 67 [.ref 21] h Q') (kk : ∀ x h', Q' x h' → G X d 66 24 [none, none, none] [.int x] h') : G X d 66 20 [some (.ref 21), none, none] [] h := by
  refine g_aload_n d_66_20 rfl rfl ?_
  exact g_callVI (mj := 67) 4 [] [] d_66_21 wd_211 mo_67 mc_67 mv_67 rfl rfl rfl (Nat.le_of_ble_eq_true rfl) rfl hdd hC (fun x h' q => g_mask [false, false, false] (kk x h' q))

theorem k_66_24 {X : GX} {d : Nat} {h : Hp} {s0 : Int32} (z0 : s0 = 0 ∨ s0 = 1) (hq : RtX X (some (.int s0)) h) : G X d 66 24 [none, none, none] [.int s0] h := by
  exact g_retz d_66_24 rfl z0 hq

theorem k_66_25 {X : GX} {d : Nat} {h : Hp} {d' : Nat} {Q' : Hp → Prop} (hdd : d' < d) (hC : CV d' 68 [.ref 21] h Q') (kk : ∀ h', Q' h' → G X d 66 34 [some (.ref 21), some (.int (h 21 8)), none] [] h') : G X d 66 25 [some (.ref 21), none, none] [] h := by
  refine g_aload_n d_66_25 rfl rfl ?_
  refine g_getf (ci := 4) (k := 8) d_66_26 wd_85 (Nat.le_of_ble_eq_true rfl) rfl rfl ?_
  refine g_istore_n d_66_29 rfl (Nat.le_of_ble_eq_true rfl) rfl ?_
  refine g_aload_n d_66_30 rfl rfl ?_
  exact g_callVV (mj := 68) 4 [] [] d_66_31 wd_212 mo_68 mc_68 mv_68 rfl rfl rfl (Nat.le_of_ble_eq_true rfl) rfl hdd hC kk

theorem k_66_34 {X : GX} {d : Nat} {h : Hp} {v1 : Int32} (kt : ¬ (h 21 8) = 9 → G X d 66 57 [some (.ref 21), some (.int v1), none] [] h) (kf : (h 21 8) = 9 → G X d 66 43 [some (.ref 21), some (.int v1), none] [] h) : G X d 66 34 [some (.ref 21), some (.int v1), none] [] h := by
  refine g_aload_n d_66_34 rfl rfl ?_
  refine g_getf (ci := 4) (k := 8) d_66_35 wd_85 (Nat.le_of_ble_eq_true rfl) rfl rfl ?_
  refine g_bipush (v := 9) d_66_38 (by decide) ?_
  exact g_icmp_ne (tgt := 57) d_66_40 (by decide) kt kf

theorem k_66_43 {X : GX} {d : Nat} {h : Hp} {v1 : Int32} {d' : Nat} {Q' : Hp → Prop} (hdd : d' < d) (hC : CV d' 68 [.ref 21] h Q') (kk : ∀ h', Q' h' → G X d 66 47 [some (.ref 21), some (.int v1), none] [] h') : G X d 66 43 [some (.ref 21), some (.int v1), none] [] h := by
  refine g_aload_n d_66_43 rfl rfl ?_
  exact g_callVV (mj := 68) 4 [] [] d_66_44 wd_212 mo_68 mc_68 mv_68 rfl rfl rfl (Nat.le_of_ble_eq_true rfl) rfl hdd hC kk

theorem k_66_47 {X : GX} {d : Nat} {h : Hp} {v1 : Int32} {d' : Nat} {Q' : Int32 → Hp → Prop} (hdd : d' < d) (hC : CI d' 69 [.ref 21, .int 0] h Q') (kk : ∀ x h', Q' x h' → G X d 66 52 [some (.ref 21), some (.int v1), none] [.int x] h') : G X d 66 47 [some (.ref 21), some (.int v1), none] [] h := by
  refine g_aload_n d_66_47 rfl rfl ?_
  refine g_iconst (v := 0) d_66_48 (by decide) ?_
  exact g_callVI (mj := 69) 4 [.int 0] [] d_66_49 wd_213 mo_69 mc_69 mv_69 rfl rfl rfl (Nat.le_of_ble_eq_true rfl) rfl hdd hC kk

theorem k_66_52 {X : GX} {d : Nat} {h : Hp} {v1 : Int32} {s0 : Int32} (kt : ¬ s0 = 0 → G X d 66 57 [some (.ref 21), some (.int v1), none] [] h) (kf : s0 = 0 → G X d 66 55 [none, none, none] [] h) : G X d 66 52 [some (.ref 21), some (.int v1), none] [.int s0] h := by
  exact g_if_ne (tgt := 57) d_66_52 (by decide) kt (fun q => g_mask [false, false, false] (kf q))

theorem k_66_55 {X : GX} {d : Nat} {h : Hp} (hq : RtX X (some (.int 0)) h) : G X d 66 55 [none, none, none] [] h := by
  refine g_iconst (v := 0) d_66_55 (by decide) ?_
  exact g_retz d_66_56 rfl z01_0 hq

theorem k_66_57 {X : GX} {d : Nat} {h : Hp} {v1 : Int32} (kt : (h 21 8) < 6 → G X d 66 75 [some (.ref 21), none, none] [] h) (kf : ¬ (h 21 8) < 6 → G X d 66 66 [some (.ref 21), some (.int v1), none] [] h) : G X d 66 57 [some (.ref 21), some (.int v1), none] [] h := by
  refine g_aload_n d_66_57 rfl rfl ?_
  refine g_getf (ci := 4) (k := 8) d_66_58 wd_85 (Nat.le_of_ble_eq_true rfl) rfl rfl ?_
  refine g_bipush (v := 6) d_66_61 (by decide) ?_
  exact g_icmp_lt (tgt := 75) d_66_63 (by decide) (fun q => g_mask [true, false, false] (kt q)) kf

theorem k_66_66 {X : GX} {d : Nat} {h : Hp} {v1 : Int32} (kt : (h 21 8) ≤ 8 → G X d 66 80 [some (.ref 21), some (.int v1), none] [] h) (kf : ¬ (h 21 8) ≤ 8 → G X d 66 75 [some (.ref 21), none, none] [] h) : G X d 66 66 [some (.ref 21), some (.int v1), none] [] h := by
  refine g_aload_n d_66_66 rfl rfl ?_
  refine g_getf (ci := 4) (k := 8) d_66_67 wd_85 (Nat.le_of_ble_eq_true rfl) rfl rfl ?_
  refine g_bipush (v := 8) d_66_70 (by decide) ?_
  exact g_icmp_le (tgt := 80) d_66_72 (by decide) kt (fun q => g_mask [true, false, false] (kf q))

theorem k_66_75 {X : GX} {d : Nat} {h : Hp} {d' : Nat} {Q' : Int32 → Hp → Prop} (hdd : d' < d) (hC : CI d' 67 [.ref 21] h Q') (kk : ∀ x h', Q' x h' → G X d 66 79 [none, none, none] [.int x] h') : G X d 66 75 [some (.ref 21), none, none] [] h := by
  refine g_aload_n d_66_75 rfl rfl ?_
  exact g_callVI (mj := 67) 4 [] [] d_66_76 wd_211 mo_67 mc_67 mv_67 rfl rfl rfl (Nat.le_of_ble_eq_true rfl) rfl hdd hC (fun x h' q => g_mask [false, false, false] (kk x h' q))

theorem k_66_79 {X : GX} {d : Nat} {h : Hp} {s0 : Int32} (z0 : s0 = 0 ∨ s0 = 1) (hq : RtX X (some (.int s0)) h) : G X d 66 79 [none, none, none] [.int s0] h := by
  exact g_retz d_66_79 rfl z0 hq

theorem k_66_80 {X : GX} {d : Nat} {h : Hp} {v1 : Int32} {d' : Nat} {Q' : Hp → Prop} (hdd : d' < d) (hC : CV d' 68 [.ref 21] h Q') (kk : ∀ h', Q' h' → G X d 66 92 [some (.ref 21), some (.int v1), some (.int ((h 21 8) - 6))] [] h') : G X d 66 80 [some (.ref 21), some (.int v1), none] [] h := by
  refine g_aload_n d_66_80 rfl rfl ?_
  refine g_getf (ci := 4) (k := 8) d_66_81 wd_85 (Nat.le_of_ble_eq_true rfl) rfl rfl ?_
  refine g_bipush (v := 6) d_66_84 (by decide) ?_
  refine g_isub d_66_86 ?_
  refine g_istore_n d_66_87 rfl (Nat.le_of_ble_eq_true rfl) rfl ?_
  refine g_aload_n d_66_88 rfl rfl ?_
  exact g_callVV (mj := 68) 4 [] [] d_66_89 wd_212 mo_68 mc_68 mv_68 rfl rfl rfl (Nat.le_of_ble_eq_true rfl) rfl hdd hC kk

theorem k_66_92 {X : GX} {d : Nat} {h : Hp} {v1 : Int32} {v2 : Int32} (kt : (h 21 8) = 25 → G X d 66 106 [some (.ref 21), some (.int v1), some (.int v2)] [] h) (kf : ¬ (h 21 8) = 25 → G X d 66 101 [some (.ref 21), none, none] [] h) : G X d 66 92 [some (.ref 21), some (.int v1), some (.int v2)] [] h := by
  refine g_aload_n d_66_92 rfl rfl ?_
  refine g_getf (ci := 4) (k := 8) d_66_93 wd_85 (Nat.le_of_ble_eq_true rfl) rfl rfl ?_
  refine g_bipush (v := 25) d_66_96 (by decide) ?_
  exact g_icmp_eq (tgt := 106) d_66_98 (by decide) kt (fun q => g_mask [true, false, false] (kf q))

theorem k_66_101 {X : GX} {d : Nat} {h : Hp} {d' : Nat} {Q' : Int32 → Hp → Prop} (hdd : d' < d) (hC : CI d' 67 [.ref 21] h Q') (kk : ∀ x h', Q' x h' → G X d 66 105 [none, none, none] [.int x] h') : G X d 66 101 [some (.ref 21), none, none] [] h := by
  refine g_aload_n d_66_101 rfl rfl ?_
  exact g_callVI (mj := 67) 4 [] [] d_66_102 wd_211 mo_67 mc_67 mv_67 rfl rfl rfl (Nat.le_of_ble_eq_true rfl) rfl hdd hC (fun x h' q => g_mask [false, false, false] (kk x h' q))

theorem k_66_105 {X : GX} {d : Nat} {h : Hp} {s0 : Int32} (z0 : s0 = 0 ∨ s0 = 1) (hq : RtX X (some (.int s0)) h) : G X d 66 105 [none, none, none] [.int s0] h := by
  exact g_retz d_66_105 rfl z0 hq

theorem k_66_106 {X : GX} {d : Nat} {h : Hp} {v1 : Int32} {v2 : Int32} {d' : Nat} {Q' : Hp → Prop} (hdd : d' < d) (hC : CV d' 68 [.ref 21] h Q') (kk : ∀ h', Q' h' → G X d 66 110 [some (.ref 21), some (.int v1), some (.int v2)] [] h') : G X d 66 106 [some (.ref 21), some (.int v1), some (.int v2)] [] h := by
  refine g_aload_n d_66_106 rfl rfl ?_
  exact g_callVV (mj := 68) 4 [] [] d_66_107 wd_212 mo_68 mc_68 mv_68 rfl rfl rfl (Nat.le_of_ble_eq_true rfl) rfl hdd hC kk

theorem k_66_110 {X : GX} {d : Nat} {h : Hp} {v1 : Int32} {v2 : Int32} {d' : Nat} {Q' : Hp → Prop} (hdd : d' < d) (hC : CV d' 77 [.ref 23, .int v1, .int v2] h Q') (kk : ∀ h', Q' h' → G X d 66 119 [none, none, none] [] h') : G X d 66 110 [some (.ref 21), some (.int v1), some (.int v2)] [] h := by
  refine g_aload_n d_66_110 rfl rfl ?_
  refine g_getf (ci := 4) (k := 2) d_66_111 wd_77 (Nat.le_of_ble_eq_true rfl) rfl rfl ?_
  refine g_iload_n d_66_114 rfl rfl ?_
  refine g_iload_n d_66_115 rfl rfl ?_
  exact g_callVV (mj := 77) 5 [.int v1, .int v2] [] d_66_116 wd_221 mo_77 mc_77 mv_77 rfl rfl rfl (Nat.le_of_ble_eq_true rfl) rfl hdd hC (fun h' q => g_mask [false, false, false] (kk h' q))

theorem k_66_119 {X : GX} {d : Nat} {h : Hp} (hq : RtX X (some (.int 1)) h) : G X d 66 119 [none, none, none] [] h := by
  refine g_iconst (v := 1) d_66_119 (by decide) ?_
  exact g_retz d_66_120 rfl z01_1 hq

/-! 67 PlayedTruth$RuleReader.refuse()Z -/
theorem k_67_0 {X : GX} {d : Nat} {h : Hp} (b0 : IA 29 (h 21 7)) (hq : RtX X (some (.int 0)) (wr h 21 3 (h 29 (Int32.toNatClampNeg (h 21 7))))) : G X d 67 0 [some (.ref 21)] [] h := by
  refine g_aload_n d_67_0 rfl rfl ?_
  refine g_aload_n d_67_1 rfl rfl ?_
  refine g_getf (ci := 4) (k := 5) d_67_2 wd_82 (Nat.le_of_ble_eq_true rfl) rfl rfl ?_
  refine g_aload_n d_67_5 rfl rfl ?_
  refine g_getf (ci := 4) (k := 7) d_67_6 wd_84 (Nat.le_of_ble_eq_true rfl) rfl rfl ?_
  refine g_iald d_67_9 b0 ?_
  refine g_putf (ci := 4) (k := 3) d_67_10 wd_79 (Nat.le_of_ble_eq_true rfl) (Nat.le_of_ble_eq_true rfl) rfl rfl (Or.inl ⟨rfl, rfl⟩) rfl ?_
  refine g_iconst (v := 0) d_67_13 (by decide) ?_
  exact g_retz d_67_14 rfl z01_0 hq

/-! 68 PlayedTruth$RuleReader.advance()V -/
theorem k_68_0 {X : GX} {d : Nat} {h : Hp} (kt : 200 ≤ (h 21 7) → G X d 68 29 [some (.ref 21)] [] h) (kf : ¬ 200 ≤ (h 21 7) → G X d 68 10 [some (.ref 21)] [] h) : G X d 68 0 [some (.ref 21)] [] h := by
  refine g_aload_n d_68_0 rfl rfl ?_
  refine g_getf (ci := 4) (k := 7) d_68_1 wd_84 (Nat.le_of_ble_eq_true rfl) rfl rfl ?_
  refine g_sipush (v := 200) d_68_4 (by decide) ?_
  exact g_icmp_ge (tgt := 29) d_68_7 (by decide) kt kf

theorem k_68_10 {X : GX} {d : Nat} {h : Hp} (kt : (h 21 8) = 27 → G X d 68 29 [some (.ref 21)] [] h) (kf : ¬ (h 21 8) = 27 → G X d 68 19 [some (.ref 21)] [] h) : G X d 68 10 [some (.ref 21)] [] h := by
  refine g_aload_n d_68_10 rfl rfl ?_
  refine g_getf (ci := 4) (k := 8) d_68_11 wd_85 (Nat.le_of_ble_eq_true rfl) rfl rfl ?_
  refine g_bipush (v := 27) d_68_14 (by decide) ?_
  exact g_icmp_eq (tgt := 29) d_68_16 (by decide) kt kf

theorem k_68_19 {X : GX} {d : Nat} {h : Hp} (b0 : IA 28 ((wr h 21 7 ((h 21 7) + 1)) 21 7)) (hq : RtX X none (wr (wr h 21 7 ((h 21 7) + 1)) 21 8 ((wr h 21 7 ((h 21 7) + 1)) 28 (Int32.toNatClampNeg ((wr h 21 7 ((h 21 7) + 1)) 21 7))))) : G X d 68 19 [some (.ref 21)] [] h := by
  refine g_aload_n d_68_19 rfl rfl ?_
  refine g_dup d_68_20 rfl ?_
  refine g_getf (ci := 4) (k := 7) d_68_21 wd_84 (Nat.le_of_ble_eq_true rfl) rfl rfl ?_
  refine g_iconst (v := 1) d_68_24 (by decide) ?_
  refine g_iadd d_68_25 ?_
  refine g_putf (ci := 4) (k := 7) d_68_26 wd_84 (Nat.le_of_ble_eq_true rfl) (Nat.le_of_ble_eq_true rfl) rfl rfl (Or.inl ⟨rfl, rfl⟩) rfl ?_
  refine g_aload_n d_68_29 rfl rfl ?_
  refine g_aload_n d_68_30 rfl rfl ?_
  refine g_getf (ci := 4) (k := 4) d_68_31 wd_81 (Nat.le_of_ble_eq_true rfl) rfl rfl ?_
  refine g_aload_n d_68_34 rfl rfl ?_
  refine g_getf (ci := 4) (k := 7) d_68_35 wd_84 (Nat.le_of_ble_eq_true rfl) rfl rfl ?_
  refine g_iald d_68_38 b0 ?_
  refine g_putf (ci := 4) (k := 8) d_68_39 wd_85 (Nat.le_of_ble_eq_true rfl) (Nat.le_of_ble_eq_true rfl) rfl rfl (Or.inl ⟨rfl, rfl⟩) rfl ?_
  exact g_retv d_68_42 rfl hq

theorem k_68_29 {X : GX} {d : Nat} {h : Hp} (b0 : IA 28 (h 21 7)) (hq : RtX X none (wr h 21 8 (h 28 (Int32.toNatClampNeg (h 21 7))))) : G X d 68 29 [some (.ref 21)] [] h := by
  refine g_aload_n d_68_29 rfl rfl ?_
  refine g_aload_n d_68_30 rfl rfl ?_
  refine g_getf (ci := 4) (k := 4) d_68_31 wd_81 (Nat.le_of_ble_eq_true rfl) rfl rfl ?_
  refine g_aload_n d_68_34 rfl rfl ?_
  refine g_getf (ci := 4) (k := 7) d_68_35 wd_84 (Nat.le_of_ble_eq_true rfl) rfl rfl ?_
  refine g_iald d_68_38 b0 ?_
  refine g_putf (ci := 4) (k := 8) d_68_39 wd_85 (Nat.le_of_ble_eq_true rfl) (Nat.le_of_ble_eq_true rfl) rfl rfl (Or.inl ⟨rfl, rfl⟩) rfl ?_
  exact g_retv d_68_42 rfl hq

/-! 69 PlayedTruth$RuleReader.readCondition(I)Z -/
theorem k_69_0 {X : GX} {d : Nat} {h : Hp} {v1 : Int32} {d' : Nat} {Q' : Int32 → Hp → Prop} (hdd : d' < d) (hC : CI d' 70 [.ref 21, .int v1] h Q') (kk : ∀ x h', Q' x h' → G X d 69 5 [some (.ref 21), some (.int v1), none] [.int x] h') : G X d 69 0 [some (.ref 21), some (.int v1), none] [] h := by
  refine g_aload_n d_69_0 rfl rfl ?_
  refine g_iload_n d_69_1 rfl rfl ?_
  exact g_callVI (mj := 70) 4 [.int v1] [] d_69_2 wd_214 mo_70 mc_70 mv_70 rfl rfl rfl (Nat.le_of_ble_eq_true rfl) rfl hdd hC kk

theorem k_69_5 {X : GX} {d : Nat} {h : Hp} {v1 : Int32} {s0 : Int32} (kt : ¬ s0 = 0 → G X d 69 10 [some (.ref 21), some (.int v1), none] [] h) (kf : s0 = 0 → G X d 69 8 [none, none, none] [] h) : G X d 69 5 [some (.ref 21), some (.int v1), none] [.int s0] h := by
  exact g_if_ne (tgt := 10) d_69_5 (by decide) kt (fun q => g_mask [false, false, false] (kf q))

theorem k_69_8 {X : GX} {d : Nat} {h : Hp} (hq : RtX X (some (.int 0)) h) : G X d 69 8 [none, none, none] [] h := by
  refine g_iconst (v := 0) d_69_8 (by decide) ?_
  exact g_retz d_69_9 rfl z01_0 hq

theorem k_69_10 {X : GX} {d : Nat} {h : Hp} {v1 : Int32} (kk : G X d 69 12 [some (.ref 21), some (.int v1), some (.int 0)] [] h) : G X d 69 10 [some (.ref 21), some (.int v1), none] [] h := by
  refine g_iconst (v := 0) d_69_10 (by decide) ?_
  refine g_istore_n d_69_11 rfl (Nat.le_of_ble_eq_true rfl) rfl ?_
  exact kk

theorem k_69_12 {X : GX} {d : Nat} {h : Hp} {v1 : Int32} {v2 : Int32} (kt : 200 ≤ v2 → G X d 69 57 [none, none, none] [] h) (kf : ¬ 200 ≤ v2 → G X d 69 19 [some (.ref 21), some (.int v1), some (.int v2)] [] h) : G X d 69 12 [some (.ref 21), some (.int v1), some (.int v2)] [] h := by
  refine g_iload_n d_69_12 rfl rfl ?_
  refine g_sipush (v := 200) d_69_13 (by decide) ?_
  exact g_icmp_ge (tgt := 57) d_69_16 (by decide) (fun q => g_mask [false, false, false] (kt q)) kf

theorem k_69_19 {X : GX} {d : Nat} {h : Hp} {v1 : Int32} {v2 : Int32} (kt : ¬ (h 21 8) = 12 → G X d 69 57 [none, none, none] [] h) (kf : (h 21 8) = 12 → G X d 69 28 [some (.ref 21), some (.int v1), some (.int v2)] [] h) : G X d 69 19 [some (.ref 21), some (.int v1), some (.int v2)] [] h := by
  refine g_aload_n d_69_19 rfl rfl ?_
  refine g_getf (ci := 4) (k := 8) d_69_20 wd_85 (Nat.le_of_ble_eq_true rfl) rfl rfl ?_
  refine g_bipush (v := 12) d_69_23 (by decide) ?_
  exact g_icmp_ne (tgt := 57) d_69_25 (by decide) (fun q => g_mask [false, false, false] (kt q)) kf

theorem k_69_28 {X : GX} {d : Nat} {h : Hp} {v1 : Int32} {v2 : Int32} {d' : Nat} {Q' : Hp → Prop} (hdd : d' < d) (hC : CV d' 68 [.ref 21] h Q') (kk : ∀ h', Q' h' → G X d 69 32 [some (.ref 21), some (.int v1), some (.int v2)] [] h') : G X d 69 28 [some (.ref 21), some (.int v1), some (.int v2)] [] h := by
  refine g_aload_n d_69_28 rfl rfl ?_
  exact g_callVV (mj := 68) 4 [] [] d_69_29 wd_212 mo_68 mc_68 mv_68 rfl rfl rfl (Nat.le_of_ble_eq_true rfl) rfl hdd hC kk

theorem k_69_32 {X : GX} {d : Nat} {h : Hp} {v1 : Int32} {v2 : Int32} {d' : Nat} {Q' : Int32 → Hp → Prop} (hdd : d' < d) (hC : CI d' 70 [.ref 21, .int v1] h Q') (kk : ∀ x h', Q' x h' → G X d 69 37 [some (.ref 21), some (.int v1), some (.int v2)] [.int x] h') : G X d 69 32 [some (.ref 21), some (.int v1), some (.int v2)] [] h := by
  refine g_aload_n d_69_32 rfl rfl ?_
  refine g_iload_n d_69_33 rfl rfl ?_
  exact g_callVI (mj := 70) 4 [.int v1] [] d_69_34 wd_214 mo_70 mc_70 mv_70 rfl rfl rfl (Nat.le_of_ble_eq_true rfl) rfl hdd hC kk

theorem k_69_37 {X : GX} {d : Nat} {h : Hp} {v1 : Int32} {v2 : Int32} {s0 : Int32} (kt : ¬ s0 = 0 → G X d 69 42 [some (.ref 21), some (.int v1), some (.int v2)] [] h) (kf : s0 = 0 → G X d 69 40 [none, none, none] [] h) : G X d 69 37 [some (.ref 21), some (.int v1), some (.int v2)] [.int s0] h := by
  exact g_if_ne (tgt := 42) d_69_37 (by decide) kt (fun q => g_mask [false, false, false] (kf q))

theorem k_69_40 {X : GX} {d : Nat} {h : Hp} (hq : RtX X (some (.int 0)) h) : G X d 69 40 [none, none, none] [] h := by
  refine g_iconst (v := 0) d_69_40 (by decide) ?_
  exact g_retz d_69_41 rfl z01_0 hq

theorem k_69_42 {X : GX} {d : Nat} {h : Hp} {v1 : Int32} {v2 : Int32} {d' : Nat} {Q' : Hp → Prop} (hdd : d' < d) (hC : CV d' 76 [.ref 23, .int 12] h Q') (kk : ∀ h', Q' h' → G X d 69 51 [some (.ref 21), some (.int v1), some (.int v2)] [] h') : G X d 69 42 [some (.ref 21), some (.int v1), some (.int v2)] [] h := by
  refine g_aload_n d_69_42 rfl rfl ?_
  refine g_getf (ci := 4) (k := 2) d_69_43 wd_77 (Nat.le_of_ble_eq_true rfl) rfl rfl ?_
  refine g_bipush (v := 12) d_69_46 (by decide) ?_
  exact g_callVV (mj := 76) 5 [.int 12] [] d_69_48 wd_220 mo_76 mc_76 mv_76 rfl rfl rfl (Nat.le_of_ble_eq_true rfl) rfl hdd hC kk

theorem k_69_51 {X : GX} {d : Nat} {h : Hp} {v1 : Int32} {v2 : Int32} (kk : G X d 69 12 [some (.ref 21), some (.int v1), some (.int (v2 + 1))] [] h) : G X d 69 51 [some (.ref 21), some (.int v1), some (.int v2)] [] h := by
  refine g_iinc (w := 1) d_69_51 rfl (by decide) (Nat.le_of_ble_eq_true rfl) rfl ?_
  refine g_goto (tgt := 12) d_69_54 (by decide) ?_
  exact kk

theorem k_69_57 {X : GX} {d : Nat} {h : Hp} (hq : RtX X (some (.int 1)) h) : G X d 69 57 [none, none, none] [] h := by
  refine g_iconst (v := 1) d_69_57 (by decide) ?_
  exact g_retz d_69_58 rfl z01_1 hq

/-! 70 PlayedTruth$RuleReader.readAll(I)Z -/
theorem k_70_0 {X : GX} {d : Nat} {h : Hp} {v1 : Int32} {d' : Nat} {Q' : Int32 → Hp → Prop} (hdd : d' < d) (hC : CI d' 71 [.ref 21, .int v1] h Q') (kk : ∀ x h', Q' x h' → G X d 70 5 [some (.ref 21), some (.int v1), none] [.int x] h') : G X d 70 0 [some (.ref 21), some (.int v1), none] [] h := by
  refine g_aload_n d_70_0 rfl rfl ?_
  refine g_iload_n d_70_1 rfl rfl ?_
  exact g_callVI (mj := 71) 4 [.int v1] [] d_70_2 wd_215 mo_71 mc_71 mv_71 rfl rfl rfl (Nat.le_of_ble_eq_true rfl) rfl hdd hC kk

theorem k_70_5 {X : GX} {d : Nat} {h : Hp} {v1 : Int32} {s0 : Int32} (kt : ¬ s0 = 0 → G X d 70 10 [some (.ref 21), some (.int v1), none] [] h) (kf : s0 = 0 → G X d 70 8 [none, none, none] [] h) : G X d 70 5 [some (.ref 21), some (.int v1), none] [.int s0] h := by
  exact g_if_ne (tgt := 10) d_70_5 (by decide) kt (fun q => g_mask [false, false, false] (kf q))

theorem k_70_8 {X : GX} {d : Nat} {h : Hp} (hq : RtX X (some (.int 0)) h) : G X d 70 8 [none, none, none] [] h := by
  refine g_iconst (v := 0) d_70_8 (by decide) ?_
  exact g_retz d_70_9 rfl z01_0 hq

theorem k_70_10 {X : GX} {d : Nat} {h : Hp} {v1 : Int32} (kk : G X d 70 12 [some (.ref 21), some (.int v1), some (.int 0)] [] h) : G X d 70 10 [some (.ref 21), some (.int v1), none] [] h := by
  refine g_iconst (v := 0) d_70_10 (by decide) ?_
  refine g_istore_n d_70_11 rfl (Nat.le_of_ble_eq_true rfl) rfl ?_
  exact kk

theorem k_70_12 {X : GX} {d : Nat} {h : Hp} {v1 : Int32} {v2 : Int32} (kt : 200 ≤ v2 → G X d 70 57 [none, none, none] [] h) (kf : ¬ 200 ≤ v2 → G X d 70 19 [some (.ref 21), some (.int v1), some (.int v2)] [] h) : G X d 70 12 [some (.ref 21), some (.int v1), some (.int v2)] [] h := by
  refine g_iload_n d_70_12 rfl rfl ?_
  refine g_sipush (v := 200) d_70_13 (by decide) ?_
  exact g_icmp_ge (tgt := 57) d_70_16 (by decide) (fun q => g_mask [false, false, false] (kt q)) kf

theorem k_70_19 {X : GX} {d : Nat} {h : Hp} {v1 : Int32} {v2 : Int32} (kt : ¬ (h 21 8) = 11 → G X d 70 57 [none, none, none] [] h) (kf : (h 21 8) = 11 → G X d 70 28 [some (.ref 21), some (.int v1), some (.int v2)] [] h) : G X d 70 19 [some (.ref 21), some (.int v1), some (.int v2)] [] h := by
  refine g_aload_n d_70_19 rfl rfl ?_
  refine g_getf (ci := 4) (k := 8) d_70_20 wd_85 (Nat.le_of_ble_eq_true rfl) rfl rfl ?_
  refine g_bipush (v := 11) d_70_23 (by decide) ?_
  exact g_icmp_ne (tgt := 57) d_70_25 (by decide) (fun q => g_mask [false, false, false] (kt q)) kf

theorem k_70_28 {X : GX} {d : Nat} {h : Hp} {v1 : Int32} {v2 : Int32} {d' : Nat} {Q' : Hp → Prop} (hdd : d' < d) (hC : CV d' 68 [.ref 21] h Q') (kk : ∀ h', Q' h' → G X d 70 32 [some (.ref 21), some (.int v1), some (.int v2)] [] h') : G X d 70 28 [some (.ref 21), some (.int v1), some (.int v2)] [] h := by
  refine g_aload_n d_70_28 rfl rfl ?_
  exact g_callVV (mj := 68) 4 [] [] d_70_29 wd_212 mo_68 mc_68 mv_68 rfl rfl rfl (Nat.le_of_ble_eq_true rfl) rfl hdd hC kk

theorem k_70_32 {X : GX} {d : Nat} {h : Hp} {v1 : Int32} {v2 : Int32} {d' : Nat} {Q' : Int32 → Hp → Prop} (hdd : d' < d) (hC : CI d' 71 [.ref 21, .int v1] h Q') (kk : ∀ x h', Q' x h' → G X d 70 37 [some (.ref 21), some (.int v1), some (.int v2)] [.int x] h') : G X d 70 32 [some (.ref 21), some (.int v1), some (.int v2)] [] h := by
  refine g_aload_n d_70_32 rfl rfl ?_
  refine g_iload_n d_70_33 rfl rfl ?_
  exact g_callVI (mj := 71) 4 [.int v1] [] d_70_34 wd_215 mo_71 mc_71 mv_71 rfl rfl rfl (Nat.le_of_ble_eq_true rfl) rfl hdd hC kk

theorem k_70_37 {X : GX} {d : Nat} {h : Hp} {v1 : Int32} {v2 : Int32} {s0 : Int32} (kt : ¬ s0 = 0 → G X d 70 42 [some (.ref 21), some (.int v1), some (.int v2)] [] h) (kf : s0 = 0 → G X d 70 40 [none, none, none] [] h) : G X d 70 37 [some (.ref 21), some (.int v1), some (.int v2)] [.int s0] h := by
  exact g_if_ne (tgt := 42) d_70_37 (by decide) kt (fun q => g_mask [false, false, false] (kf q))

theorem k_70_40 {X : GX} {d : Nat} {h : Hp} (hq : RtX X (some (.int 0)) h) : G X d 70 40 [none, none, none] [] h := by
  refine g_iconst (v := 0) d_70_40 (by decide) ?_
  exact g_retz d_70_41 rfl z01_0 hq

theorem k_70_42 {X : GX} {d : Nat} {h : Hp} {v1 : Int32} {v2 : Int32} {d' : Nat} {Q' : Hp → Prop} (hdd : d' < d) (hC : CV d' 76 [.ref 23, .int 11] h Q') (kk : ∀ h', Q' h' → G X d 70 51 [some (.ref 21), some (.int v1), some (.int v2)] [] h') : G X d 70 42 [some (.ref 21), some (.int v1), some (.int v2)] [] h := by
  refine g_aload_n d_70_42 rfl rfl ?_
  refine g_getf (ci := 4) (k := 2) d_70_43 wd_77 (Nat.le_of_ble_eq_true rfl) rfl rfl ?_
  refine g_bipush (v := 11) d_70_46 (by decide) ?_
  exact g_callVV (mj := 76) 5 [.int 11] [] d_70_48 wd_220 mo_76 mc_76 mv_76 rfl rfl rfl (Nat.le_of_ble_eq_true rfl) rfl hdd hC kk

theorem k_70_51 {X : GX} {d : Nat} {h : Hp} {v1 : Int32} {v2 : Int32} (kk : G X d 70 12 [some (.ref 21), some (.int v1), some (.int (v2 + 1))] [] h) : G X d 70 51 [some (.ref 21), some (.int v1), some (.int v2)] [] h := by
  refine g_iinc (w := 1) d_70_51 rfl (by decide) (Nat.le_of_ble_eq_true rfl) rfl ?_
  refine g_goto (tgt := 12) d_70_54 (by decide) ?_
  exact kk

theorem k_70_57 {X : GX} {d : Nat} {h : Hp} (hq : RtX X (some (.int 1)) h) : G X d 70 57 [none, none, none] [] h := by
  refine g_iconst (v := 1) d_70_57 (by decide) ?_
  exact g_retz d_70_58 rfl z01_1 hq

/-! 71 PlayedTruth$RuleReader.readOne(I)Z -/
theorem k_71_0 {X : GX} {d : Nat} {h : Hp} {v1 : Int32} (kk : G X d 71 4 [some (.ref 21), some (.int v1), some (.int 0), some (.int 0)] [] h) : G X d 71 0 [some (.ref 21), some (.int v1), none, none] [] h := by
  refine g_iconst (v := 0) d_71_0 (by decide) ?_
  refine g_istore_n d_71_1 rfl (Nat.le_of_ble_eq_true rfl) rfl ?_
  refine g_iconst (v := 0) d_71_2 (by decide) ?_
  refine g_istore_n d_71_3 rfl (Nat.le_of_ble_eq_true rfl) rfl ?_
  exact kk

theorem k_71_4 {X : GX} {d : Nat} {h : Hp} {v1 : Int32} {v2 : Int32} {v3 : Int32} (kt : 200 ≤ v3 → G X d 71 40 [some (.ref 21), some (.int v1), some (.int v2), none] [] h) (kf : ¬ 200 ≤ v3 → G X d 71 11 [some (.ref 21), some (.int v1), some (.int v2), some (.int v3)] [] h) : G X d 71 4 [some (.ref 21), some (.int v1), some (.int v2), some (.int v3)] [] h := by
  refine g_iload_n d_71_4 rfl rfl ?_
  refine g_sipush (v := 200) d_71_5 (by decide) ?_
  exact g_icmp_ge (tgt := 40) d_71_8 (by decide) (fun q => g_mask [true, true, true, false] (kt q)) kf

theorem k_71_11 {X : GX} {d : Nat} {h : Hp} {v1 : Int32} {v2 : Int32} {v3 : Int32} (kt : ¬ (h 21 8) = 10 → G X d 71 40 [some (.ref 21), some (.int v1), some (.int v2), none] [] h) (kf : (h 21 8) = 10 → G X d 71 20 [some (.ref 21), some (.int v1), some (.int v2), some (.int v3)] [] h) : G X d 71 11 [some (.ref 21), some (.int v1), some (.int v2), some (.int v3)] [] h := by
  refine g_aload_n d_71_11 rfl rfl ?_
  refine g_getf (ci := 4) (k := 8) d_71_12 wd_85 (Nat.le_of_ble_eq_true rfl) rfl rfl ?_
  refine g_bipush (v := 10) d_71_15 (by decide) ?_
  exact g_icmp_ne (tgt := 40) d_71_17 (by decide) (fun q => g_mask [true, true, true, false] (kt q)) kf

theorem k_71_20 {X : GX} {d : Nat} {h : Hp} {v1 : Int32} {v2 : Int32} {v3 : Int32} (kt : ¬ v2 = 0 → G X d 71 28 [some (.ref 21), some (.int v1), none, some (.int v3)] [] h) (kf : v2 = 0 → G X d 71 24 [some (.ref 21), some (.int v1), none, some (.int v3)] [] h) : G X d 71 20 [some (.ref 21), some (.int v1), some (.int v2), some (.int v3)] [] h := by
  refine g_iload_n d_71_20 rfl rfl ?_
  exact g_if_ne (tgt := 28) d_71_21 (by decide) (fun q => g_mask [true, true, false, true] (kt q)) (fun q => g_mask [true, true, false, true] (kf q))

theorem k_71_24 {X : GX} {d : Nat} {h : Hp} {v1 : Int32} {v3 : Int32} {d' : Nat} {Q' : Hp → Prop} (hdd : d' < d) (hC : CV d' 68 [.ref 21] h Q') (kk : ∀ h', Q' h' → G X d 71 34 [some (.ref 21), some (.int v1), some (.int 1), some (.int v3)] [] h') : G X d 71 24 [some (.ref 21), some (.int v1), none, some (.int v3)] [] h := by
  refine g_iconst (v := 1) d_71_24 (by decide) ?_
  refine g_goto (tgt := 29) d_71_25 (by decide) ?_
  refine g_istore_n d_71_29 rfl (Nat.le_of_ble_eq_true rfl) rfl ?_
  refine g_aload_n d_71_30 rfl rfl ?_
  exact g_callVV (mj := 68) 4 [] [] d_71_31 wd_212 mo_68 mc_68 mv_68 rfl rfl rfl (Nat.le_of_ble_eq_true rfl) rfl hdd hC kk

theorem k_71_28 {X : GX} {d : Nat} {h : Hp} {v1 : Int32} {v3 : Int32} {d' : Nat} {Q' : Hp → Prop} (hdd : d' < d) (hC : CV d' 68 [.ref 21] h Q') (kk : ∀ h', Q' h' → G X d 71 34 [some (.ref 21), some (.int v1), some (.int 0), some (.int v3)] [] h') : G X d 71 28 [some (.ref 21), some (.int v1), none, some (.int v3)] [] h := by
  refine g_iconst (v := 0) d_71_28 (by decide) ?_
  refine g_istore_n d_71_29 rfl (Nat.le_of_ble_eq_true rfl) rfl ?_
  refine g_aload_n d_71_30 rfl rfl ?_
  exact g_callVV (mj := 68) 4 [] [] d_71_31 wd_212 mo_68 mc_68 mv_68 rfl rfl rfl (Nat.le_of_ble_eq_true rfl) rfl hdd hC kk

theorem k_71_34 {X : GX} {d : Nat} {h : Hp} {v1 : Int32} {v2 : Int32} {v3 : Int32} (kk : G X d 71 4 [some (.ref 21), some (.int v1), some (.int v2), some (.int (v3 + 1))] [] h) : G X d 71 34 [some (.ref 21), some (.int v1), some (.int v2), some (.int v3)] [] h := by
  refine g_iinc (w := 1) d_71_34 rfl (by decide) (Nat.le_of_ble_eq_true rfl) rfl ?_
  refine g_goto (tgt := 4) d_71_37 (by decide) ?_
  exact kk

theorem k_71_40 {X : GX} {d : Nat} {h : Hp} {v1 : Int32} {v2 : Int32} (kt : ¬ (h 21 8) = 23 → G X d 71 57 [some (.ref 21), none, some (.int v2), none] [] h) (kf : (h 21 8) = 23 → G X d 71 49 [some (.ref 21), some (.int v1), some (.int v2), none] [] h) : G X d 71 40 [some (.ref 21), some (.int v1), some (.int v2), none] [] h := by
  refine g_aload_n d_71_40 rfl rfl ?_
  refine g_getf (ci := 4) (k := 8) d_71_41 wd_85 (Nat.le_of_ble_eq_true rfl) rfl rfl ?_
  refine g_bipush (v := 23) d_71_44 (by decide) ?_
  exact g_icmp_ne (tgt := 57) d_71_46 (by decide) (fun q => g_mask [true, false, true, false] (kt q)) kf

theorem k_71_49 {X : GX} {d : Nat} {h : Hp} {v1 : Int32} {v2 : Int32} {d' : Nat} {Q' : Int32 → Hp → Prop} (hdd : d' < d) (hC : CI d' 72 [.ref 21, .int v1] h Q') (kk : ∀ x h', Q' x h' → G X d 71 54 [some (.ref 21), none, some (.int v2), none] [.int x] h') : G X d 71 49 [some (.ref 21), some (.int v1), some (.int v2), none] [] h := by
  refine g_aload_n d_71_49 rfl rfl ?_
  refine g_iload_n d_71_50 rfl rfl ?_
  exact g_callVI (mj := 72) 4 [.int v1] [] d_71_51 wd_216 mo_72 mc_72 mv_72 rfl rfl rfl (Nat.le_of_ble_eq_true rfl) rfl hdd hC (fun x h' q => g_mask [true, false, true, false] (kk x h' q))

theorem k_71_54 {X : GX} {d : Nat} {h : Hp} {v2 : Int32} {s0 : Int32} (kt : s0 = 0 → G X d 71 79 [none, none, none, some (.int s0)] [] h) (kf : ¬ s0 = 0 → G X d 71 66 [some (.ref 21), none, some (.int v2), some (.int s0)] [] h) : G X d 71 54 [some (.ref 21), none, some (.int v2), none] [.int s0] h := by
  refine g_goto (tgt := 61) d_71_54 (by decide) ?_
  refine g_istore_n d_71_61 rfl (Nat.le_of_ble_eq_true rfl) rfl ?_
  refine g_iload_n d_71_62 rfl rfl ?_
  exact g_if_eq (tgt := 79) d_71_63 (by decide) (fun q => g_mask [false, false, false, true] (kt q)) kf

theorem k_71_57 {X : GX} {d : Nat} {h : Hp} {v2 : Int32} {d' : Nat} {Q' : Int32 → Hp → Prop} (hdd : d' < d) (hC : CI d' 73 [.ref 21] h Q') (kk : ∀ x h', Q' x h' → G X d 71 61 [some (.ref 21), none, some (.int v2), none] [.int x] h') : G X d 71 57 [some (.ref 21), none, some (.int v2), none] [] h := by
  refine g_aload_n d_71_57 rfl rfl ?_
  exact g_callVI (mj := 73) 4 [] [] d_71_58 wd_217 mo_73 mc_73 mv_73 rfl rfl rfl (Nat.le_of_ble_eq_true rfl) rfl hdd hC kk

theorem k_71_61 {X : GX} {d : Nat} {h : Hp} {v2 : Int32} {s0 : Int32} (kt : s0 = 0 → G X d 71 79 [none, none, none, some (.int s0)] [] h) (kf : ¬ s0 = 0 → G X d 71 66 [some (.ref 21), none, some (.int v2), some (.int s0)] [] h) : G X d 71 61 [some (.ref 21), none, some (.int v2), none] [.int s0] h := by
  refine g_istore_n d_71_61 rfl (Nat.le_of_ble_eq_true rfl) rfl ?_
  refine g_iload_n d_71_62 rfl rfl ?_
  exact g_if_eq (tgt := 79) d_71_63 (by decide) (fun q => g_mask [false, false, false, true] (kt q)) kf

theorem k_71_66 {X : GX} {d : Nat} {h : Hp} {v2 : Int32} {v3 : Int32} (kt : v2 = 0 → G X d 71 79 [none, none, none, some (.int v3)] [] h) (kf : ¬ v2 = 0 → G X d 71 70 [some (.ref 21), none, none, some (.int v3)] [] h) : G X d 71 66 [some (.ref 21), none, some (.int v2), some (.int v3)] [] h := by
  refine g_iload_n d_71_66 rfl rfl ?_
  exact g_if_eq (tgt := 79) d_71_67 (by decide) (fun q => g_mask [false, false, false, true] (kt q)) (fun q => g_mask [true, false, false, true] (kf q))

theorem k_71_70 {X : GX} {d : Nat} {h : Hp} {v3 : Int32} {d' : Nat} {Q' : Hp → Prop} (hdd : d' < d) (hC : CV d' 76 [.ref 23, .int 10] h Q') (kk : ∀ h', Q' h' → G X d 71 79 [none, none, none, some (.int v3)] [] h') : G X d 71 70 [some (.ref 21), none, none, some (.int v3)] [] h := by
  refine g_aload_n d_71_70 rfl rfl ?_
  refine g_getf (ci := 4) (k := 2) d_71_71 wd_77 (Nat.le_of_ble_eq_true rfl) rfl rfl ?_
  refine g_bipush (v := 10) d_71_74 (by decide) ?_
  exact g_callVV (mj := 76) 5 [.int 10] [] d_71_76 wd_220 mo_76 mc_76 mv_76 rfl rfl rfl (Nat.le_of_ble_eq_true rfl) rfl hdd hC (fun h' q => g_mask [false, false, false, true] (kk h' q))

theorem k_71_79 {X : GX} {d : Nat} {h : Hp} {v3 : Int32} (z0 : v3 = 0 ∨ v3 = 1) (hq : RtX X (some (.int v3)) h) : G X d 71 79 [none, none, none, some (.int v3)] [] h := by
  refine g_iload_n d_71_79 rfl rfl ?_
  exact g_retz d_71_80 rfl z0 hq

/-! 72 PlayedTruth$RuleReader.readBracket(I)Z -/
theorem k_72_0 {X : GX} {d : Nat} {h : Hp} {v1 : Int32} (kt : v1 < 3 → G X d 72 10 [some (.ref 21), some (.int v1)] [] h) (kf : ¬ v1 < 3 → G X d 72 5 [some (.ref 21), none] [] h) : G X d 72 0 [some (.ref 21), some (.int v1)] [] h := by
  refine g_iload_n d_72_0 rfl rfl ?_
  refine g_iconst (v := 3) d_72_1 (by decide) ?_
  exact g_icmp_lt (tgt := 10) d_72_2 (by decide) kt (fun q => g_mask [true, false] (kf q))

theorem k_72_5 {X : GX} {d : Nat} {h : Hp} {d' : Nat} {Q' : Int32 → Hp → Prop} (hdd : d' < d) (hC : CI d' 67 [.ref 21] h Q') (kk : ∀ x h', Q' x h' → G X d 72 9 [none, none] [.int x] h') : G X d 72 5 [some (.ref 21), none] [] h := by
  refine g_aload_n d_72_5 rfl rfl ?_
  exact g_callVI (mj := 67) 4 [] [] d_72_6 wd_211 mo_67 mc_67 mv_67 rfl rfl rfl (Nat.le_of_ble_eq_true rfl) rfl hdd hC (fun x h' q => g_mask [false, false] (kk x h' q))

theorem k_72_9 {X : GX} {d : Nat} {h : Hp} {s0 : Int32} (z0 : s0 = 0 ∨ s0 = 1) (hq : RtX X (some (.int s0)) h) : G X d 72 9 [none, none] [.int s0] h := by
  exact g_retz d_72_9 rfl z0 hq

theorem k_72_10 {X : GX} {d : Nat} {h : Hp} {v1 : Int32} {d' : Nat} {Q' : Hp → Prop} (hdd : d' < d) (hC : CV d' 68 [.ref 21] h Q') (kk : ∀ h', Q' h' → G X d 72 14 [some (.ref 21), some (.int v1)] [] h') : G X d 72 10 [some (.ref 21), some (.int v1)] [] h := by
  refine g_aload_n d_72_10 rfl rfl ?_
  exact g_callVV (mj := 68) 4 [] [] d_72_11 wd_212 mo_68 mc_68 mv_68 rfl rfl rfl (Nat.le_of_ble_eq_true rfl) rfl hdd hC kk

theorem k_72_14 {X : GX} {d : Nat} {h : Hp} {v1 : Int32} {d' : Nat} {Q' : Int32 → Hp → Prop} (hdd : d' < d) (hC : CI d' 69 [.ref 21, .int (v1 + 1)] h Q') (kk : ∀ x h', Q' x h' → G X d 72 21 [some (.ref 21), none] [.int x] h') : G X d 72 14 [some (.ref 21), some (.int v1)] [] h := by
  refine g_aload_n d_72_14 rfl rfl ?_
  refine g_iload_n d_72_15 rfl rfl ?_
  refine g_iconst (v := 1) d_72_16 (by decide) ?_
  refine g_iadd d_72_17 ?_
  exact g_callVI (mj := 69) 4 [.int (v1 + 1)] [] d_72_18 wd_213 mo_69 mc_69 mv_69 rfl rfl rfl (Nat.le_of_ble_eq_true rfl) rfl hdd hC (fun x h' q => g_mask [true, false] (kk x h' q))

theorem k_72_21 {X : GX} {d : Nat} {h : Hp} {s0 : Int32} (kt : ¬ s0 = 0 → G X d 72 26 [some (.ref 21), none] [] h) (kf : s0 = 0 → G X d 72 24 [none, none] [] h) : G X d 72 21 [some (.ref 21), none] [.int s0] h := by
  exact g_if_ne (tgt := 26) d_72_21 (by decide) kt (fun q => g_mask [false, false] (kf q))

theorem k_72_24 {X : GX} {d : Nat} {h : Hp} (hq : RtX X (some (.int 0)) h) : G X d 72 24 [none, none] [] h := by
  refine g_iconst (v := 0) d_72_24 (by decide) ?_
  exact g_retz d_72_25 rfl z01_0 hq

theorem k_72_26 {X : GX} {d : Nat} {h : Hp} (kt : (h 21 8) = 24 → G X d 72 40 [some (.ref 21), none] [] h) (kf : ¬ (h 21 8) = 24 → G X d 72 35 [some (.ref 21), none] [] h) : G X d 72 26 [some (.ref 21), none] [] h := by
  refine g_aload_n d_72_26 rfl rfl ?_
  refine g_getf (ci := 4) (k := 8) d_72_27 wd_85 (Nat.le_of_ble_eq_true rfl) rfl rfl ?_
  refine g_bipush (v := 24) d_72_30 (by decide) ?_
  exact g_icmp_eq (tgt := 40) d_72_32 (by decide) kt kf

theorem k_72_35 {X : GX} {d : Nat} {h : Hp} {d' : Nat} {Q' : Int32 → Hp → Prop} (hdd : d' < d) (hC : CI d' 67 [.ref 21] h Q') (kk : ∀ x h', Q' x h' → G X d 72 39 [none, none] [.int x] h') : G X d 72 35 [some (.ref 21), none] [] h := by
  refine g_aload_n d_72_35 rfl rfl ?_
  exact g_callVI (mj := 67) 4 [] [] d_72_36 wd_211 mo_67 mc_67 mv_67 rfl rfl rfl (Nat.le_of_ble_eq_true rfl) rfl hdd hC (fun x h' q => g_mask [false, false] (kk x h' q))

theorem k_72_39 {X : GX} {d : Nat} {h : Hp} {s0 : Int32} (z0 : s0 = 0 ∨ s0 = 1) (hq : RtX X (some (.int s0)) h) : G X d 72 39 [none, none] [.int s0] h := by
  exact g_retz d_72_39 rfl z0 hq

theorem k_72_40 {X : GX} {d : Nat} {h : Hp} {d' : Nat} {Q' : Hp → Prop} (hdd : d' < d) (hC : CV d' 68 [.ref 21] h Q') (kk : ∀ h', Q' h' → G X d 72 44 [none, none] [] h') : G X d 72 40 [some (.ref 21), none] [] h := by
  refine g_aload_n d_72_40 rfl rfl ?_
  exact g_callVV (mj := 68) 4 [] [] d_72_41 wd_212 mo_68 mc_68 mv_68 rfl rfl rfl (Nat.le_of_ble_eq_true rfl) rfl hdd hC (fun h' q => g_mask [false, false] (kk h' q))

theorem k_72_44 {X : GX} {d : Nat} {h : Hp} (hq : RtX X (some (.int 1)) h) : G X d 72 44 [none, none] [] h := by
  refine g_iconst (v := 1) d_72_44 (by decide) ?_
  exact g_retz d_72_45 rfl z01_1 hq

/-! 73 PlayedTruth$RuleReader.readComparison()Z -/
theorem k_73_0 {X : GX} {d : Nat} {h : Hp} {d' : Nat} {Q' : Int32 → Hp → Prop} (hdd : d' < d) (hC : CI d' 74 [.ref 21] h Q') (kk : ∀ x h', Q' x h' → G X d 73 4 [some (.ref 21), none, none] [.int x] h') : G X d 73 0 [some (.ref 21), none, none] [] h := by
  refine g_aload_n d_73_0 rfl rfl ?_
  exact g_callVI (mj := 74) 4 [] [] d_73_1 wd_218 mo_74 mc_74 mv_74 rfl rfl rfl (Nat.le_of_ble_eq_true rfl) rfl hdd hC kk

theorem k_73_4 {X : GX} {d : Nat} {h : Hp} {s0 : Int32} (kt : ¬ s0 = 0 → G X d 73 12 [some (.ref 21), none, none] [] h) (kf : s0 = 0 → G X d 73 7 [some (.ref 21), none, none] [] h) : G X d 73 4 [some (.ref 21), none, none] [.int s0] h := by
  exact g_if_ne (tgt := 12) d_73_4 (by decide) kt kf

theorem k_73_7 {X : GX} {d : Nat} {h : Hp} {d' : Nat} {Q' : Int32 → Hp → Prop} (hdd : d' < d) (hC : CI d' 67 [.ref 21] h Q') (kk : ∀ x h', Q' x h' → G X d 73 11 [none, none, none] [.int x] h') : G X d 73 7 [some (.ref 21), none, none] [] h := by
  refine g_aload_n d_73_7 rfl rfl ?_
  exact g_callVI (mj := 67) 4 [] [] d_73_8 wd_211 mo_67 mc_67 mv_67 rfl rfl rfl (Nat.le_of_ble_eq_true rfl) rfl hdd hC (fun x h' q => g_mask [false, false, false] (kk x h' q))

theorem k_73_11 {X : GX} {d : Nat} {h : Hp} {s0 : Int32} (z0 : s0 = 0 ∨ s0 = 1) (hq : RtX X (some (.int s0)) h) : G X d 73 11 [none, none, none] [.int s0] h := by
  exact g_retz d_73_11 rfl z0 hq

theorem k_73_12 {X : GX} {d : Nat} {h : Hp} {d' : Nat} {Q' : Int32 → Hp → Prop} (hdd : d' < d) (hC : CI d' 75 [.ref 21] h Q') (kk : ∀ x h', Q' x h' → G X d 73 16 [some (.ref 21), none, none] [.int x] h') : G X d 73 12 [some (.ref 21), none, none] [] h := by
  refine g_aload_n d_73_12 rfl rfl ?_
  exact g_callVI (mj := 75) 4 [] [] d_73_13 wd_219 mo_75 mc_75 mv_75 rfl rfl rfl (Nat.le_of_ble_eq_true rfl) rfl hdd hC kk

theorem k_73_16 {X : GX} {d : Nat} {h : Hp} {s0 : Int32} {d' : Nat} {Q' : Hp → Prop} (hdd : d' < d) (hC : CV d' 68 [.ref 21] h Q') (kk : ∀ h', Q' h' → G X d 73 21 [some (.ref 21), some (.int s0), none] [] h') : G X d 73 16 [some (.ref 21), none, none] [.int s0] h := by
  refine g_istore_n d_73_16 rfl (Nat.le_of_ble_eq_true rfl) rfl ?_
  refine g_aload_n d_73_17 rfl rfl ?_
  exact g_callVV (mj := 68) 4 [] [] d_73_18 wd_212 mo_68 mc_68 mv_68 rfl rfl rfl (Nat.le_of_ble_eq_true rfl) rfl hdd hC kk

theorem k_73_21 {X : GX} {d : Nat} {h : Hp} {v1 : Int32} (kt : (h 21 8) < 20 → G X d 73 39 [some (.ref 21), none, none] [] h) (kf : ¬ (h 21 8) < 20 → G X d 73 30 [some (.ref 21), some (.int v1), none] [] h) : G X d 73 21 [some (.ref 21), some (.int v1), none] [] h := by
  refine g_aload_n d_73_21 rfl rfl ?_
  refine g_getf (ci := 4) (k := 8) d_73_22 wd_85 (Nat.le_of_ble_eq_true rfl) rfl rfl ?_
  refine g_bipush (v := 20) d_73_25 (by decide) ?_
  exact g_icmp_lt (tgt := 39) d_73_27 (by decide) (fun q => g_mask [true, false, false] (kt q)) kf

theorem k_73_30 {X : GX} {d : Nat} {h : Hp} {v1 : Int32} (kt : (h 21 8) ≤ 22 → G X d 73 44 [some (.ref 21), some (.int v1), none] [] h) (kf : ¬ (h 21 8) ≤ 22 → G X d 73 39 [some (.ref 21), none, none] [] h) : G X d 73 30 [some (.ref 21), some (.int v1), none] [] h := by
  refine g_aload_n d_73_30 rfl rfl ?_
  refine g_getf (ci := 4) (k := 8) d_73_31 wd_85 (Nat.le_of_ble_eq_true rfl) rfl rfl ?_
  refine g_bipush (v := 22) d_73_34 (by decide) ?_
  exact g_icmp_le (tgt := 44) d_73_36 (by decide) kt (fun q => g_mask [true, false, false] (kf q))

theorem k_73_39 {X : GX} {d : Nat} {h : Hp} {d' : Nat} {Q' : Int32 → Hp → Prop} (hdd : d' < d) (hC : CI d' 67 [.ref 21] h Q') (kk : ∀ x h', Q' x h' → G X d 73 43 [none, none, none] [.int x] h') : G X d 73 39 [some (.ref 21), none, none] [] h := by
  refine g_aload_n d_73_39 rfl rfl ?_
  exact g_callVI (mj := 67) 4 [] [] d_73_40 wd_211 mo_67 mc_67 mv_67 rfl rfl rfl (Nat.le_of_ble_eq_true rfl) rfl hdd hC (fun x h' q => g_mask [false, false, false] (kk x h' q))

theorem k_73_43 {X : GX} {d : Nat} {h : Hp} {s0 : Int32} (z0 : s0 = 0 ∨ s0 = 1) (hq : RtX X (some (.int s0)) h) : G X d 73 43 [none, none, none] [.int s0] h := by
  exact g_retz d_73_43 rfl z0 hq

theorem k_73_44 {X : GX} {d : Nat} {h : Hp} {v1 : Int32} {d' : Nat} {Q' : Hp → Prop} (hdd : d' < d) (hC : CV d' 68 [.ref 21] h Q') (kk : ∀ h', Q' h' → G X d 73 53 [some (.ref 21), some (.int v1), some (.int (h 21 8))] [] h') : G X d 73 44 [some (.ref 21), some (.int v1), none] [] h := by
  refine g_aload_n d_73_44 rfl rfl ?_
  refine g_getf (ci := 4) (k := 8) d_73_45 wd_85 (Nat.le_of_ble_eq_true rfl) rfl rfl ?_
  refine g_istore_n d_73_48 rfl (Nat.le_of_ble_eq_true rfl) rfl ?_
  refine g_aload_n d_73_49 rfl rfl ?_
  exact g_callVV (mj := 68) 4 [] [] d_73_50 wd_212 mo_68 mc_68 mv_68 rfl rfl rfl (Nat.le_of_ble_eq_true rfl) rfl hdd hC kk

theorem k_73_53 {X : GX} {d : Nat} {h : Hp} {v1 : Int32} {v2 : Int32} {d' : Nat} {Q' : Int32 → Hp → Prop} (hdd : d' < d) (hC : CI d' 74 [.ref 21] h Q') (kk : ∀ x h', Q' x h' → G X d 73 57 [some (.ref 21), some (.int v1), some (.int v2)] [.int x] h') : G X d 73 53 [some (.ref 21), some (.int v1), some (.int v2)] [] h := by
  refine g_aload_n d_73_53 rfl rfl ?_
  exact g_callVI (mj := 74) 4 [] [] d_73_54 wd_218 mo_74 mc_74 mv_74 rfl rfl rfl (Nat.le_of_ble_eq_true rfl) rfl hdd hC kk

theorem k_73_57 {X : GX} {d : Nat} {h : Hp} {v1 : Int32} {v2 : Int32} {s0 : Int32} (kt : ¬ s0 = 0 → G X d 73 65 [some (.ref 21), some (.int v1), some (.int v2)] [] h) (kf : s0 = 0 → G X d 73 60 [some (.ref 21), none, none] [] h) : G X d 73 57 [some (.ref 21), some (.int v1), some (.int v2)] [.int s0] h := by
  exact g_if_ne (tgt := 65) d_73_57 (by decide) kt (fun q => g_mask [true, false, false] (kf q))

theorem k_73_60 {X : GX} {d : Nat} {h : Hp} {d' : Nat} {Q' : Int32 → Hp → Prop} (hdd : d' < d) (hC : CI d' 67 [.ref 21] h Q') (kk : ∀ x h', Q' x h' → G X d 73 64 [none, none, none] [.int x] h') : G X d 73 60 [some (.ref 21), none, none] [] h := by
  refine g_aload_n d_73_60 rfl rfl ?_
  exact g_callVI (mj := 67) 4 [] [] d_73_61 wd_211 mo_67 mc_67 mv_67 rfl rfl rfl (Nat.le_of_ble_eq_true rfl) rfl hdd hC (fun x h' q => g_mask [false, false, false] (kk x h' q))

theorem k_73_64 {X : GX} {d : Nat} {h : Hp} {s0 : Int32} (z0 : s0 = 0 ∨ s0 = 1) (hq : RtX X (some (.int s0)) h) : G X d 73 64 [none, none, none] [.int s0] h := by
  exact g_retz d_73_64 rfl z0 hq

theorem k_73_65 {X : GX} {d : Nat} {h : Hp} {v1 : Int32} {v2 : Int32} {d' : Nat} {Q' : Hp → Prop} (hdd : d' < d) (hC : CV d' 76 [.ref 23, .int v2] h Q') (kk : ∀ h', Q' h' → G X d 73 73 [some (.ref 21), some (.int v1), none] [] h') : G X d 73 65 [some (.ref 21), some (.int v1), some (.int v2)] [] h := by
  refine g_aload_n d_73_65 rfl rfl ?_
  refine g_getf (ci := 4) (k := 2) d_73_66 wd_77 (Nat.le_of_ble_eq_true rfl) rfl rfl ?_
  refine g_iload_n d_73_69 rfl rfl ?_
  exact g_callVV (mj := 76) 5 [.int v2] [] d_73_70 wd_220 mo_76 mc_76 mv_76 rfl rfl rfl (Nat.le_of_ble_eq_true rfl) rfl hdd hC (fun h' q => g_mask [true, true, false] (kk h' q))

theorem k_73_73 {X : GX} {d : Nat} {h : Hp} {v1 : Int32} {d' : Nat} {Q' : Hp → Prop} (hdd : d' < d) (hC : CV d' 76 [.ref 23, .int v1] h Q') (kk : ∀ h', Q' h' → G X d 73 81 [some (.ref 21), none, none] [] h') : G X d 73 73 [some (.ref 21), some (.int v1), none] [] h := by
  refine g_aload_n d_73_73 rfl rfl ?_
  refine g_getf (ci := 4) (k := 2) d_73_74 wd_77 (Nat.le_of_ble_eq_true rfl) rfl rfl ?_
  refine g_iload_n d_73_77 rfl rfl ?_
  exact g_callVV (mj := 76) 5 [.int v1] [] d_73_78 wd_220 mo_76 mc_76 mv_76 rfl rfl rfl (Nat.le_of_ble_eq_true rfl) rfl hdd hC (fun h' q => g_mask [true, false, false] (kk h' q))

theorem k_73_81 {X : GX} {d : Nat} {h : Hp} {d' : Nat} {Q' : Int32 → Hp → Prop} (hdd : d' < d) (hC : CI d' 75 [.ref 21] h Q') (kk : ∀ x h', Q' x h' → G X d 73 89 [some (.ref 21), none, none] [.int x, .ref 23] h') : G X d 73 81 [some (.ref 21), none, none] [] h := by
  refine g_aload_n d_73_81 rfl rfl ?_
  refine g_getf (ci := 4) (k := 2) d_73_82 wd_77 (Nat.le_of_ble_eq_true rfl) rfl rfl ?_
  refine g_aload_n d_73_85 rfl rfl ?_
  exact g_callVI (mj := 75) 4 [] [.ref 23] d_73_86 wd_219 mo_75 mc_75 mv_75 rfl rfl rfl (Nat.le_of_ble_eq_true rfl) rfl hdd hC kk

theorem k_73_89 {X : GX} {d : Nat} {h : Hp} {s0 : Int32} {s1 : Nat} {d' : Nat} {Q' : Hp → Prop} (o0 : sh s1 = (1, 5)) (hdd : d' < d) (hC : CV d' 76 [.ref s1, .int s0] h Q') (kk : ∀ h', Q' h' → G X d 73 92 [some (.ref 21), none, none] [] h') : G X d 73 89 [some (.ref 21), none, none] [.int s0, .ref s1] h := by
  exact g_callVV (mj := 76) 5 [.int s0] [] d_73_89 wd_220 mo_76 mc_76 mv_76 rfl rfl rfl (Nat.le_of_ble_eq_true rfl) o0 hdd hC kk

theorem k_73_92 {X : GX} {d : Nat} {h : Hp} {d' : Nat} {Q' : Hp → Prop} (hdd : d' < d) (hC : CV d' 68 [.ref 21] h Q') (kk : ∀ h', Q' h' → G X d 73 96 [none, none, none] [] h') : G X d 73 92 [some (.ref 21), none, none] [] h := by
  refine g_aload_n d_73_92 rfl rfl ?_
  exact g_callVV (mj := 68) 4 [] [] d_73_93 wd_212 mo_68 mc_68 mv_68 rfl rfl rfl (Nat.le_of_ble_eq_true rfl) rfl hdd hC (fun h' q => g_mask [false, false, false] (kk h' q))

theorem k_73_96 {X : GX} {d : Nat} {h : Hp} (hq : RtX X (some (.int 1)) h) : G X d 73 96 [none, none, none] [] h := by
  refine g_iconst (v := 1) d_73_96 (by decide) ?_
  exact g_retz d_73_97 rfl z01_1 hq

/-! 74 PlayedTruth$RuleReader.isValue()Z -/
theorem k_74_0 {X : GX} {d : Nat} {h : Hp} (kt : (h 21 8) = 26 → G X d 74 27 [none] [] h) (kf : ¬ (h 21 8) = 26 → G X d 74 9 [some (.ref 21)] [] h) : G X d 74 0 [some (.ref 21)] [] h := by
  refine g_aload_n d_74_0 rfl rfl ?_
  refine g_getf (ci := 4) (k := 8) d_74_1 wd_85 (Nat.le_of_ble_eq_true rfl) rfl rfl ?_
  refine g_bipush (v := 26) d_74_4 (by decide) ?_
  exact g_icmp_eq (tgt := 27) d_74_6 (by decide) (fun q => g_mask [false] (kt q)) kf

theorem k_74_9 {X : GX} {d : Nat} {h : Hp} (kt : (h 21 8) < 13 → G X d 74 31 [none] [] h) (kf : ¬ (h 21 8) < 13 → G X d 74 18 [some (.ref 21)] [] h) : G X d 74 9 [some (.ref 21)] [] h := by
  refine g_aload_n d_74_9 rfl rfl ?_
  refine g_getf (ci := 4) (k := 8) d_74_10 wd_85 (Nat.le_of_ble_eq_true rfl) rfl rfl ?_
  refine g_bipush (v := 13) d_74_13 (by decide) ?_
  exact g_icmp_lt (tgt := 31) d_74_15 (by decide) (fun q => g_mask [false] (kt q)) kf

theorem k_74_18 {X : GX} {d : Nat} {h : Hp} (kt : 17 < (h 21 8) → G X d 74 31 [none] [] h) (kf : ¬ 17 < (h 21 8) → G X d 74 27 [none] [] h) : G X d 74 18 [some (.ref 21)] [] h := by
  refine g_aload_n d_74_18 rfl rfl ?_
  refine g_getf (ci := 4) (k := 8) d_74_19 wd_85 (Nat.le_of_ble_eq_true rfl) rfl rfl ?_
  refine g_bipush (v := 17) d_74_22 (by decide) ?_
  exact g_icmp_gt (tgt := 31) d_74_24 (by decide) (fun q => g_mask [false] (kt q)) (fun q => g_mask [false] (kf q))

theorem k_74_27 {X : GX} {d : Nat} {h : Hp} (hq : RtX X (some (.int 1)) h) : G X d 74 27 [none] [] h := by
  refine g_iconst (v := 1) d_74_27 (by decide) ?_
  refine g_goto (tgt := 32) d_74_28 (by decide) ?_
  exact g_retz d_74_32 rfl z01_1 hq

theorem k_74_31 {X : GX} {d : Nat} {h : Hp} (hq : RtX X (some (.int 0)) h) : G X d 74 31 [none] [] h := by
  refine g_iconst (v := 0) d_74_31 (by decide) ?_
  exact g_retz d_74_32 rfl z01_0 hq

/-! 75 PlayedTruth$RuleReader.toldValue()I -/
theorem k_75_0 {X : GX} {d : Nat} {h : Hp} (kt : ¬ (h 21 8) = 26 → G X d 75 21 [some (.ref 21)] [] h) (kf : (h 21 8) = 26 → G X d 75 9 [some (.ref 21)] [] h) : G X d 75 0 [some (.ref 21)] [] h := by
  refine g_aload_n d_75_0 rfl rfl ?_
  refine g_getf (ci := 4) (k := 8) d_75_1 wd_85 (Nat.le_of_ble_eq_true rfl) rfl rfl ?_
  refine g_bipush (v := 26) d_75_4 (by decide) ?_
  exact g_icmp_ne (tgt := 21) d_75_6 (by decide) kt kf

theorem k_75_9 {X : GX} {d : Nat} {h : Hp} (b0 : IA 30 (h 21 7)) (hq : RtX X (some (.int (h 30 (Int32.toNatClampNeg (h 21 7))))) h) : G X d 75 9 [some (.ref 21)] [] h := by
  refine g_aload_n d_75_9 rfl rfl ?_
  refine g_getf (ci := 4) (k := 6) d_75_10 wd_83 (Nat.le_of_ble_eq_true rfl) rfl rfl ?_
  refine g_aload_n d_75_13 rfl rfl ?_
  refine g_getf (ci := 4) (k := 7) d_75_14 wd_84 (Nat.le_of_ble_eq_true rfl) rfl rfl ?_
  refine g_iald d_75_17 b0 ?_
  refine g_goto (tgt := 32) d_75_18 (by decide) ?_
  exact g_reti d_75_32 rfl hq

theorem k_75_21 {X : GX} {d : Nat} {h : Hp} (hq : RtX X (some (.int ((10000 + (h 21 8)) - 13))) h) : G X d 75 21 [some (.ref 21)] [] h := by
  refine g_sipush (v := 10000) d_75_21 (by decide) ?_
  refine g_aload_n d_75_24 rfl rfl ?_
  refine g_getf (ci := 4) (k := 8) d_75_25 wd_85 (Nat.le_of_ble_eq_true rfl) rfl rfl ?_
  refine g_iadd d_75_28 ?_
  refine g_bipush (v := 13) d_75_29 (by decide) ?_
  refine g_isub d_75_31 ?_
  exact g_reti d_75_32 rfl hq

