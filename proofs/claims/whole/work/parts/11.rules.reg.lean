/-! 25 PlayedTruth$Rules.willOf(I[I)I -/
theorem k_25_0 {X : GX} {d : Nat} {h : Hp} {v1 : Int32} {v2 : Nat} (kk : G X d 25 5 [some (.ref 7), some (.int v1), some (.ref v2), some (.int 0), some (.int 0)] [] h) : G X d 25 0 [some (.ref 7), some (.int v1), some (.ref v2), none, none] [] h := by
  refine g_iconst (v := 0) d_25_0 (by decide) ?_
  refine g_istore_n d_25_1 rfl (Nat.le_of_ble_eq_true rfl) rfl ?_
  refine g_iconst (v := 0) d_25_2 (by decide) ?_
  refine g_istore d_25_3 (Nat.le_of_ble_eq_true rfl) rfl ?_
  exact kk

theorem k_25_5 {X : GX} {d : Nat} {h : Hp} {v1 : Int32} {v2 : Nat} {v3 : Int32} {v4 : Int32} (kt : (h 7 5) ≤ v4 → G X d 25 66 [none, none, none, none, none] [] h) (kf : ¬ (h 7 5) ≤ v4 → G X d 25 14 [some (.ref 7), some (.int v1), some (.ref v2), some (.int v3), some (.int v4)] [] h) : G X d 25 5 [some (.ref 7), some (.int v1), some (.ref v2), some (.int v3), some (.int v4)] [] h := by
  refine g_iload d_25_5 rfl ?_
  refine g_aload_n d_25_7 rfl rfl ?_
  refine g_getf (ci := 5) (k := 5) d_25_8 wd_10 (Nat.le_of_ble_eq_true rfl) rfl rfl ?_
  exact g_icmp_ge (tgt := 66) d_25_11 (by decide) (fun q => g_mask [false, false, false, false, false] (kt q)) kf

theorem k_25_14 {X : GX} {d : Nat} {h : Hp} {v1 : Int32} {v2 : Nat} {v3 : Int32} {v4 : Int32} {d' : Nat} {Q' : Int32 → Hp → Prop} (b0 : IA 8 v4) (hdd : d' < d) (hC : CI d' 26 [.int v1, .int (h 8 (Int32.toNatClampNeg v4))] h Q') (kk : ∀ x h', Q' x h' → G X d 25 25 [some (.ref 7), some (.int v1), some (.ref v2), some (.int v3), some (.int v4)] [.int x] h') : G X d 25 14 [some (.ref 7), some (.int v1), some (.ref v2), some (.int v3), some (.int v4)] [] h := by
  refine g_iload_n d_25_14 rfl rfl ?_
  refine g_aload_n d_25_15 rfl rfl ?_
  refine g_getf (ci := 5) (k := 0) d_25_16 wd_5 (Nat.le_of_ble_eq_true rfl) rfl rfl ?_
  refine g_iload d_25_19 rfl ?_
  refine g_iald d_25_21 b0 ?_
  exact g_callSI (mj := 26) [.int v1, .int (h 8 (Int32.toNatClampNeg v4))] [] d_25_22 wd_162 mo_26 mc_26 mv_26 rfl rfl (Nat.le_of_ble_eq_true rfl)  hdd hC kk

theorem k_25_25 {X : GX} {d : Nat} {h : Hp} {v1 : Int32} {v2 : Nat} {v3 : Int32} {v4 : Int32} {s0 : Int32} (kt : s0 = 0 → G X d 25 52 [some (.ref 7), some (.int v1), some (.ref v2), none, some (.int v4)] [] h) (kf : ¬ s0 = 0 → G X d 25 28 [some (.ref 7), some (.int v1), some (.ref v2), some (.int v3), some (.int v4)] [] h) : G X d 25 25 [some (.ref 7), some (.int v1), some (.ref v2), some (.int v3), some (.int v4)] [.int s0] h := by
  exact g_if_eq (tgt := 52) d_25_25 (by decide) (fun q => g_mask [true, true, true, false, true] (kt q)) kf

theorem k_25_28 {X : GX} {d : Nat} {h : Hp} {v1 : Int32} {v2 : Nat} {v3 : Int32} {v4 : Int32} {d' : Nat} {Q' : Int32 → Hp → Prop} (b0 : IA 10 v4) (hdd : d' < d) (hC : CI d' 27 [.ref 7, .int v3, .int (h 10 (Int32.toNatClampNeg v4)), .ref v2] h Q') (kk : ∀ x h', Q' x h' → G X d 25 41 [some (.ref 7), some (.int v1), some (.ref v2), none, some (.int v4)] [.int x] h') : G X d 25 28 [some (.ref 7), some (.int v1), some (.ref v2), some (.int v3), some (.int v4)] [] h := by
  refine g_aload_n d_25_28 rfl rfl ?_
  refine g_iload_n d_25_29 rfl rfl ?_
  refine g_aload_n d_25_30 rfl rfl ?_
  refine g_getf (ci := 5) (k := 2) d_25_31 wd_7 (Nat.le_of_ble_eq_true rfl) rfl rfl ?_
  refine g_iload d_25_34 rfl ?_
  refine g_iald d_25_36 b0 ?_
  refine g_aload_n d_25_37 rfl rfl ?_
  exact g_callVI (mj := 27) 5 [.int v3, .int (h 10 (Int32.toNatClampNeg v4)), .ref v2] [] d_25_38 wd_163 mo_27 mc_27 mv_27 rfl rfl rfl (Nat.le_of_ble_eq_true rfl) rfl hdd hC (fun x h' q => g_mask [true, true, true, false, true] (kk x h' q))

theorem k_25_41 {X : GX} {d : Nat} {h : Hp} {v1 : Int32} {v2 : Nat} {v4 : Int32} {s0 : Int32} (kt : s0 = 0 → G X d 25 52 [some (.ref 7), some (.int v1), some (.ref v2), none, some (.int v4)] [] h) (kf : ¬ s0 = 0 → G X d 25 44 [some (.ref 7), none, none, none, some (.int v4)] [] h) : G X d 25 41 [some (.ref 7), some (.int v1), some (.ref v2), none, some (.int v4)] [.int s0] h := by
  exact g_if_eq (tgt := 52) d_25_41 (by decide) kt (fun q => g_mask [true, false, false, false, true] (kf q))

theorem k_25_44 {X : GX} {d : Nat} {h : Hp} {v4 : Int32} (b0 : IA 9 v4) (hq : RtX X (some (.int (h 9 (Int32.toNatClampNeg v4)))) h) : G X d 25 44 [some (.ref 7), none, none, none, some (.int v4)] [] h := by
  refine g_aload_n d_25_44 rfl rfl ?_
  refine g_getf (ci := 5) (k := 1) d_25_45 wd_6 (Nat.le_of_ble_eq_true rfl) rfl rfl ?_
  refine g_iload d_25_48 rfl ?_
  refine g_iald d_25_50 b0 ?_
  exact g_reti d_25_51 rfl hq

theorem k_25_52 {X : GX} {d : Nat} {h : Hp} {v1 : Int32} {v2 : Nat} {v4 : Int32} (b0 : IA 10 v4) (kk : G X d 25 5 [some (.ref 7), some (.int v1), some (.ref v2), some (.int (h 10 (Int32.toNatClampNeg v4))), some (.int (v4 + 1))] [] h) : G X d 25 52 [some (.ref 7), some (.int v1), some (.ref v2), none, some (.int v4)] [] h := by
  refine g_aload_n d_25_52 rfl rfl ?_
  refine g_getf (ci := 5) (k := 2) d_25_53 wd_7 (Nat.le_of_ble_eq_true rfl) rfl rfl ?_
  refine g_iload d_25_56 rfl ?_
  refine g_iald d_25_58 b0 ?_
  refine g_istore_n d_25_59 rfl (Nat.le_of_ble_eq_true rfl) rfl ?_
  refine g_iinc (w := 1) d_25_60 rfl (by decide) (Nat.le_of_ble_eq_true rfl) rfl ?_
  refine g_goto (tgt := 5) d_25_63 (by decide) ?_
  exact kk

theorem k_25_66 {X : GX} {d : Nat} {h : Hp} (hq : RtX X (some (.int 0)) h) : G X d 25 66 [none, none, none, none, none] [] h := by
  refine g_iconst (v := 0) d_25_66 (by decide) ?_
  exact g_reti d_25_67 rfl hq

/-! 27 PlayedTruth$Rules.holds(II[I)Z -/
theorem k_27_0 {X : GX} {d : Nat} {h : Hp} {v1 : Int32} {v2 : Int32} {v3 : Nat} (kt : ¬ v1 = v2 → G X d 27 9 [some (.ref 7), some (.int v1), some (.int v2), some (.ref v3), none, none, none, none, none, none, none, none, none] [] h) (kf : v1 = v2 → G X d 27 5 [some (.ref 7), some (.int v1), some (.int v2), some (.ref v3), none, none, none, none, none, none, none, none, none] [] h) : G X d 27 0 [some (.ref 7), some (.int v1), some (.int v2), some (.ref v3), none, none, none, none, none, none, none, none, none] [] h := by
  refine g_iload_n d_27_0 rfl rfl ?_
  refine g_iload_n d_27_1 rfl rfl ?_
  exact g_icmp_ne (tgt := 9) d_27_2 (by decide) kt kf

theorem k_27_5 {X : GX} {d : Nat} {h : Hp} {v1 : Int32} {v2 : Int32} {v3 : Nat} (kk : G X d 27 15 [some (.ref 7), none, some (.int v2), some (.ref v3), some (.int 1), some (.int v1), none, none, none, none, none, none, none] [] h) : G X d 27 5 [some (.ref 7), some (.int v1), some (.int v2), some (.ref v3), none, none, none, none, none, none, none, none, none] [] h := by
  refine g_iconst (v := 1) d_27_5 (by decide) ?_
  refine g_goto (tgt := 10) d_27_6 (by decide) ?_
  refine g_istore d_27_10 (Nat.le_of_ble_eq_true rfl) rfl ?_
  refine g_iload_n d_27_12 rfl rfl ?_
  refine g_istore d_27_13 (Nat.le_of_ble_eq_true rfl) rfl ?_
  exact g_mask [true, false, true, true, true, true, false, false, false, false, false, false, false] kk

theorem k_27_9 {X : GX} {d : Nat} {h : Hp} {v1 : Int32} {v2 : Int32} {v3 : Nat} (kk : G X d 27 15 [some (.ref 7), none, some (.int v2), some (.ref v3), some (.int 0), some (.int v1), none, none, none, none, none, none, none] [] h) : G X d 27 9 [some (.ref 7), some (.int v1), some (.int v2), some (.ref v3), none, none, none, none, none, none, none, none, none] [] h := by
  refine g_iconst (v := 0) d_27_9 (by decide) ?_
  refine g_istore d_27_10 (Nat.le_of_ble_eq_true rfl) rfl ?_
  refine g_iload_n d_27_12 rfl rfl ?_
  refine g_istore d_27_13 (Nat.le_of_ble_eq_true rfl) rfl ?_
  exact g_mask [true, false, true, true, true, true, false, false, false, false, false, false, false] kk

theorem k_27_15 {X : GX} {d : Nat} {h : Hp} {v2 : Int32} {v3 : Nat} {v4 : Int32} {v5 : Int32} (kt : v2 ≤ v5 → G X d 27 271 [none, none, none, none, some (.int v4), none, none, none, none, none, none, none, none] [] h) (kf : ¬ v2 ≤ v5 → G X d 27 21 [some (.ref 7), none, some (.int v2), some (.ref v3), some (.int v4), some (.int v5), none, none, none, none, none, none, none] [] h) : G X d 27 15 [some (.ref 7), none, some (.int v2), some (.ref v3), some (.int v4), some (.int v5), none, none, none, none, none, none, none] [] h := by
  refine g_iload d_27_15 rfl ?_
  refine g_iload_n d_27_17 rfl rfl ?_
  exact g_icmp_ge (tgt := 271) d_27_18 (by decide) (fun q => g_mask [false, false, false, false, true, false, false, false, false, false, false, false, false] (kt q)) kf

theorem k_27_21 {X : GX} {d : Nat} {h : Hp} {v2 : Int32} {v3 : Nat} {v4 : Int32} {v5 : Int32} (b0 : IA 11 v5) (kt : ¬ (h 11 (Int32.toNatClampNeg v5)) = 10 → G X d 27 52 [some (.ref 7), none, some (.int v2), some (.ref v3), some (.int v4), some (.int v5), some (.int (h 11 (Int32.toNatClampNeg v5))), some (.int (v4 &&& 1)), none, none, none, none, none] [] h) (kf : (h 11 (Int32.toNatClampNeg v5)) = 10 → G X d 27 43 [some (.ref 7), none, some (.int v2), some (.ref v3), some (.int v4), some (.int v5), none, none, none, none, none, none, none] [] h) : G X d 27 21 [some (.ref 7), none, some (.int v2), some (.ref v3), some (.int v4), some (.int v5), none, none, none, none, none, none, none] [] h := by
  refine g_aload_n d_27_21 rfl rfl ?_
  refine g_getf (ci := 5) (k := 3) d_27_22 wd_8 (Nat.le_of_ble_eq_true rfl) rfl rfl ?_
  refine g_iload d_27_25 rfl ?_
  refine g_iald d_27_27 b0 ?_
  refine g_istore d_27_28 (Nat.le_of_ble_eq_true rfl) rfl ?_
  refine g_iload d_27_30 rfl ?_
  refine g_iconst (v := 1) d_27_32 (by decide) ?_
  refine g_iand d_27_33 ?_
  refine g_istore d_27_34 (Nat.le_of_ble_eq_true rfl) rfl ?_
  refine g_iload d_27_36 rfl ?_
  refine g_bipush (v := 10) d_27_38 (by decide) ?_
  exact g_icmp_ne (tgt := 52) d_27_40 (by decide) kt (fun q => g_mask [true, false, true, true, true, true, false, false, false, false, false, false, false] (kf q))

theorem k_27_43 {X : GX} {d : Nat} {h : Hp} {v2 : Int32} {v3 : Nat} {v4 : Int32} {v5 : Int32} (kk : G X d 27 15 [some (.ref 7), none, some (.int v2), some (.ref v3), some (.int (v4 ^^^ 1)), some (.int (v5 + 1)), none, none, none, none, none, none, none] [] h) : G X d 27 43 [some (.ref 7), none, some (.int v2), some (.ref v3), some (.int v4), some (.int v5), none, none, none, none, none, none, none] [] h := by
  refine g_iload d_27_43 rfl ?_
  refine g_iconst (v := 1) d_27_45 (by decide) ?_
  refine g_ixor d_27_46 ?_
  refine g_istore d_27_47 (Nat.le_of_ble_eq_true rfl) rfl ?_
  refine g_goto (tgt := 265) d_27_49 (by decide) ?_
  refine g_iinc (w := 1) d_27_265 rfl (by decide) (Nat.le_of_ble_eq_true rfl) rfl ?_
  refine g_goto (tgt := 15) d_27_268 (by decide) ?_
  exact kk

theorem k_27_52 {X : GX} {d : Nat} {h : Hp} {v2 : Int32} {v3 : Nat} {v4 : Int32} {v5 : Int32} {v6 : Int32} {v7 : Int32} (kt : ¬ v6 = 11 → G X d 27 74 [some (.ref 7), none, some (.int v2), some (.ref v3), some (.int v4), some (.int v5), some (.int v6), some (.int v7), none, none, none, none, none] [] h) (kf : v6 = 11 → G X d 27 59 [some (.ref 7), none, some (.int v2), some (.ref v3), some (.int v4), some (.int v5), none, some (.int v7), none, none, none, none, none] [] h) : G X d 27 52 [some (.ref 7), none, some (.int v2), some (.ref v3), some (.int v4), some (.int v5), some (.int v6), some (.int v7), none, none, none, none, none] [] h := by
  refine g_iload d_27_52 rfl ?_
  refine g_bipush (v := 11) d_27_54 (by decide) ?_
  exact g_icmp_ne (tgt := 74) d_27_56 (by decide) kt (fun q => g_mask [true, false, true, true, true, true, false, true, false, false, false, false, false] (kf q))

theorem k_27_59 {X : GX} {d : Nat} {h : Hp} {v2 : Int32} {v3 : Nat} {v4 : Int32} {v5 : Int32} {v7 : Int32} (kk : G X d 27 15 [some (.ref 7), none, some (.int v2), some (.ref v3), some (.int (((v4.toUInt32 >>> ((1 : Int32).toUInt32 &&& Int32.toUInt32 31)).toInt32) &&& (v7 ||| ((-2))))), some (.int (v5 + 1)), none, none, none, none, none, none, none] [] h) : G X d 27 59 [some (.ref 7), none, some (.int v2), some (.ref v3), some (.int v4), some (.int v5), none, some (.int v7), none, none, none, none, none] [] h := by
  refine g_iload d_27_59 rfl ?_
  refine g_iconst (v := 1) d_27_61 (by decide) ?_
  refine g_iushr d_27_62 ?_
  refine g_iload d_27_63 rfl ?_
  refine g_bipush (v := (-2)) d_27_65 (by decide) ?_
  refine g_ior d_27_67 ?_
  refine g_iand d_27_68 ?_
  refine g_istore d_27_69 (Nat.le_of_ble_eq_true rfl) rfl ?_
  refine g_goto (tgt := 265) d_27_71 (by decide) ?_
  refine g_iinc (w := 1) d_27_265 rfl (by decide) (Nat.le_of_ble_eq_true rfl) rfl ?_
  refine g_goto (tgt := 15) d_27_268 (by decide) ?_
  exact g_mask [true, false, true, true, true, true, false, false, false, false, false, false, false] kk

theorem k_27_74 {X : GX} {d : Nat} {h : Hp} {v2 : Int32} {v3 : Nat} {v4 : Int32} {v5 : Int32} {v6 : Int32} {v7 : Int32} (kt : ¬ v6 = 12 → G X d 27 93 [some (.ref 7), none, some (.int v2), some (.ref v3), some (.int v4), some (.int v5), some (.int v6), none, none, none, none, none, none] [] h) (kf : v6 = 12 → G X d 27 81 [some (.ref 7), none, some (.int v2), some (.ref v3), some (.int v4), some (.int v5), none, some (.int v7), none, none, none, none, none] [] h) : G X d 27 74 [some (.ref 7), none, some (.int v2), some (.ref v3), some (.int v4), some (.int v5), some (.int v6), some (.int v7), none, none, none, none, none] [] h := by
  refine g_iload d_27_74 rfl ?_
  refine g_bipush (v := 12) d_27_76 (by decide) ?_
  exact g_icmp_ne (tgt := 93) d_27_78 (by decide) (fun q => g_mask [true, false, true, true, true, true, true, false, false, false, false, false, false] (kt q)) (fun q => g_mask [true, false, true, true, true, true, false, true, false, false, false, false, false] (kf q))

theorem k_27_81 {X : GX} {d : Nat} {h : Hp} {v2 : Int32} {v3 : Nat} {v4 : Int32} {v5 : Int32} {v7 : Int32} (kk : G X d 27 15 [some (.ref 7), none, some (.int v2), some (.ref v3), some (.int (((v4.toUInt32 >>> ((1 : Int32).toUInt32 &&& Int32.toUInt32 31)).toInt32) ||| v7)), some (.int (v5 + 1)), none, none, none, none, none, none, none] [] h) : G X d 27 81 [some (.ref 7), none, some (.int v2), some (.ref v3), some (.int v4), some (.int v5), none, some (.int v7), none, none, none, none, none] [] h := by
  refine g_iload d_27_81 rfl ?_
  refine g_iconst (v := 1) d_27_83 (by decide) ?_
  refine g_iushr d_27_84 ?_
  refine g_iload d_27_85 rfl ?_
  refine g_ior d_27_87 ?_
  refine g_istore d_27_88 (Nat.le_of_ble_eq_true rfl) rfl ?_
  refine g_goto (tgt := 265) d_27_90 (by decide) ?_
  refine g_iinc (w := 1) d_27_265 rfl (by decide) (Nat.le_of_ble_eq_true rfl) rfl ?_
  refine g_goto (tgt := 15) d_27_268 (by decide) ?_
  exact g_mask [true, false, true, true, true, true, false, false, false, false, false, false, false] kk

theorem k_27_93 {X : GX} {d : Nat} {h : Hp} {v2 : Int32} {v3 : Nat} {v4 : Int32} {v5 : Int32} {v6 : Int32} (kt : v2 ≤ (v5 + 2) → G X d 27 265 [some (.ref 7), none, some (.int v2), some (.ref v3), some (.int v4), some (.int v5), none, none, none, none, none, none, none] [] h) (kf : ¬ v2 ≤ (v5 + 2) → G X d 27 101 [some (.ref 7), none, some (.int v2), some (.ref v3), some (.int v4), some (.int v5), some (.int v6), none, none, none, none, none, none] [] h) : G X d 27 93 [some (.ref 7), none, some (.int v2), some (.ref v3), some (.int v4), some (.int v5), some (.int v6), none, none, none, none, none, none] [] h := by
  refine g_iload d_27_93 rfl ?_
  refine g_iconst (v := 2) d_27_95 (by decide) ?_
  refine g_iadd d_27_96 ?_
  refine g_iload_n d_27_97 rfl rfl ?_
  exact g_icmp_ge (tgt := 265) d_27_98 (by decide) (fun q => g_mask [true, false, true, true, true, true, false, false, false, false, false, false, false] (kt q)) kf

theorem k_27_101 {X : GX} {d : Nat} {h : Hp} {v2 : Int32} {v3 : Nat} {v4 : Int32} {v5 : Int32} {v6 : Int32} (b0 : IA 11 (v5 + 1)) (b1 : IA 11 (v5 + 2)) (kt : ((h 11 (Int32.toNatClampNeg (v5 + 1))) - 10000) < 0 → G X d 27 149 [some (.ref 7), none, some (.int v2), some (.ref v3), some (.int v4), some (.int v5), some (.int v6), none, none, some (.int ((h 11 (Int32.toNatClampNeg (v5 + 2))) - 10000)), none, none, none] [] h) (kf : ¬ ((h 11 (Int32.toNatClampNeg (v5 + 1))) - 10000) < 0 → G X d 27 136 [some (.ref 7), none, some (.int v2), some (.ref v3), some (.int v4), some (.int v5), some (.int v6), none, some (.int ((h 11 (Int32.toNatClampNeg (v5 + 1))) - 10000)), some (.int ((h 11 (Int32.toNatClampNeg (v5 + 2))) - 10000)), none, none, none] [] h) : G X d 27 101 [some (.ref 7), none, some (.int v2), some (.ref v3), some (.int v4), some (.int v5), some (.int v6), none, none, none, none, none, none] [] h := by
  refine g_aload_n d_27_101 rfl rfl ?_
  refine g_getf (ci := 5) (k := 3) d_27_102 wd_8 (Nat.le_of_ble_eq_true rfl) rfl rfl ?_
  refine g_iload d_27_105 rfl ?_
  refine g_iconst (v := 1) d_27_107 (by decide) ?_
  refine g_iadd d_27_108 ?_
  refine g_iald d_27_109 b0 ?_
  refine g_sipush (v := 10000) d_27_110 (by decide) ?_
  refine g_isub d_27_113 ?_
  refine g_istore d_27_114 (Nat.le_of_ble_eq_true rfl) rfl ?_
  refine g_aload_n d_27_116 rfl rfl ?_
  refine g_getf (ci := 5) (k := 3) d_27_117 wd_8 (Nat.le_of_ble_eq_true rfl) rfl rfl ?_
  refine g_iload d_27_120 rfl ?_
  refine g_iconst (v := 2) d_27_122 (by decide) ?_
  refine g_iadd d_27_123 ?_
  refine g_iald d_27_124 b1 ?_
  refine g_sipush (v := 10000) d_27_125 (by decide) ?_
  refine g_isub d_27_128 ?_
  refine g_istore d_27_129 (Nat.le_of_ble_eq_true rfl) rfl ?_
  refine g_iload d_27_131 rfl ?_
  exact g_if_lt (tgt := 149) d_27_133 (by decide) (fun q => g_mask [true, false, true, true, true, true, true, false, false, true, false, false, false] (kt q)) kf

theorem k_27_136 {X : GX} {d : Nat} {h : Hp} {v2 : Int32} {v3 : Nat} {v4 : Int32} {v5 : Int32} {v6 : Int32} {v8 : Int32} {v9 : Int32} (kt : 5 ≤ v8 → G X d 27 149 [some (.ref 7), none, some (.int v2), some (.ref v3), some (.int v4), some (.int v5), some (.int v6), none, none, some (.int v9), none, none, none] [] h) (kf : ¬ 5 ≤ v8 → G X d 27 142 [some (.ref 7), none, some (.int v2), some (.ref v3), some (.int v4), some (.int v5), some (.int v6), none, some (.int v8), some (.int v9), none, none, none] [] h) : G X d 27 136 [some (.ref 7), none, some (.int v2), some (.ref v3), some (.int v4), some (.int v5), some (.int v6), none, some (.int v8), some (.int v9), none, none, none] [] h := by
  refine g_iload d_27_136 rfl ?_
  refine g_iconst (v := 5) d_27_138 (by decide) ?_
  exact g_icmp_ge (tgt := 149) d_27_139 (by decide) (fun q => g_mask [true, false, true, true, true, true, true, false, false, true, false, false, false] (kt q)) kf

theorem k_27_142 {X : GX} {d : Nat} {h : Hp} {v2 : Int32} {v3 : Nat} {v4 : Int32} {v5 : Int32} {v6 : Int32} {v8 : Int32} {v9 : Int32} (b0 : IA v3 v8) (kt : v9 < 0 → G X d 27 178 [some (.ref 7), none, some (.int v2), some (.ref v3), some (.int v4), some (.int v5), some (.int v6), none, none, none, some (.int (h v3 (Int32.toNatClampNeg v8))), none, none] [] h) (kf : ¬ v9 < 0 → G X d 27 165 [some (.ref 7), none, some (.int v2), some (.ref v3), some (.int v4), some (.int v5), some (.int v6), none, none, some (.int v9), some (.int (h v3 (Int32.toNatClampNeg v8))), none, none] [] h) : G X d 27 142 [some (.ref 7), none, some (.int v2), some (.ref v3), some (.int v4), some (.int v5), some (.int v6), none, some (.int v8), some (.int v9), none, none, none] [] h := by
  refine g_aload_n d_27_142 rfl rfl ?_
  refine g_iload d_27_143 rfl ?_
  refine g_iald d_27_145 b0 ?_
  refine g_goto (tgt := 158) d_27_146 (by decide) ?_
  refine g_istore d_27_158 (Nat.le_of_ble_eq_true rfl) rfl ?_
  refine g_iload d_27_160 rfl ?_
  exact g_if_lt (tgt := 178) d_27_162 (by decide) (fun q => g_mask [true, false, true, true, true, true, true, false, false, false, true, false, false] (kt q)) (fun q => g_mask [true, false, true, true, true, true, true, false, false, true, true, false, false] (kf q))

theorem k_27_149 {X : GX} {d : Nat} {h : Hp} {v2 : Int32} {v3 : Nat} {v4 : Int32} {v5 : Int32} {v6 : Int32} {v9 : Int32} (b0 : IA 11 (v5 + 1)) (kt : v9 < 0 → G X d 27 178 [some (.ref 7), none, some (.int v2), some (.ref v3), some (.int v4), some (.int v5), some (.int v6), none, none, none, some (.int (h 11 (Int32.toNatClampNeg (v5 + 1)))), none, none] [] h) (kf : ¬ v9 < 0 → G X d 27 165 [some (.ref 7), none, some (.int v2), some (.ref v3), some (.int v4), some (.int v5), some (.int v6), none, none, some (.int v9), some (.int (h 11 (Int32.toNatClampNeg (v5 + 1)))), none, none] [] h) : G X d 27 149 [some (.ref 7), none, some (.int v2), some (.ref v3), some (.int v4), some (.int v5), some (.int v6), none, none, some (.int v9), none, none, none] [] h := by
  refine g_aload_n d_27_149 rfl rfl ?_
  refine g_getf (ci := 5) (k := 3) d_27_150 wd_8 (Nat.le_of_ble_eq_true rfl) rfl rfl ?_
  refine g_iload d_27_153 rfl ?_
  refine g_iconst (v := 1) d_27_155 (by decide) ?_
  refine g_iadd d_27_156 ?_
  refine g_iald d_27_157 b0 ?_
  refine g_istore d_27_158 (Nat.le_of_ble_eq_true rfl) rfl ?_
  refine g_iload d_27_160 rfl ?_
  exact g_if_lt (tgt := 178) d_27_162 (by decide) (fun q => g_mask [true, false, true, true, true, true, true, false, false, false, true, false, false] (kt q)) kf

theorem k_27_165 {X : GX} {d : Nat} {h : Hp} {v2 : Int32} {v3 : Nat} {v4 : Int32} {v5 : Int32} {v6 : Int32} {v9 : Int32} {v10 : Int32} (kt : 5 ≤ v9 → G X d 27 178 [some (.ref 7), none, some (.int v2), some (.ref v3), some (.int v4), some (.int v5), some (.int v6), none, none, none, some (.int v10), none, none] [] h) (kf : ¬ 5 ≤ v9 → G X d 27 171 [some (.ref 7), none, some (.int v2), some (.ref v3), some (.int v4), some (.int v5), some (.int v6), none, none, some (.int v9), some (.int v10), none, none] [] h) : G X d 27 165 [some (.ref 7), none, some (.int v2), some (.ref v3), some (.int v4), some (.int v5), some (.int v6), none, none, some (.int v9), some (.int v10), none, none] [] h := by
  refine g_iload d_27_165 rfl ?_
  refine g_iconst (v := 5) d_27_167 (by decide) ?_
  exact g_icmp_ge (tgt := 178) d_27_168 (by decide) (fun q => g_mask [true, false, true, true, true, true, true, false, false, false, true, false, false] (kt q)) kf

theorem k_27_171 {X : GX} {d : Nat} {h : Hp} {v2 : Int32} {v3 : Nat} {v4 : Int32} {v5 : Int32} {v6 : Int32} {v9 : Int32} {v10 : Int32} (b0 : IA v3 v9) (kt : ¬ v10 = (h v3 (Int32.toNatClampNeg v9)) → G X d 27 200 [some (.ref 7), none, some (.int v2), some (.ref v3), some (.int v4), some (.int v5), some (.int v6), none, none, none, some (.int v10), some (.int (h v3 (Int32.toNatClampNeg v9))), none] [] h) (kf : v10 = (h v3 (Int32.toNatClampNeg v9)) → G X d 27 196 [some (.ref 7), none, some (.int v2), some (.ref v3), some (.int v4), some (.int v5), some (.int v6), none, none, none, some (.int v10), some (.int (h v3 (Int32.toNatClampNeg v9))), none] [] h) : G X d 27 171 [some (.ref 7), none, some (.int v2), some (.ref v3), some (.int v4), some (.int v5), some (.int v6), none, none, some (.int v9), some (.int v10), none, none] [] h := by
  refine g_aload_n d_27_171 rfl rfl ?_
  refine g_iload d_27_172 rfl ?_
  refine g_iald d_27_174 b0 ?_
  refine g_goto (tgt := 187) d_27_175 (by decide) ?_
  refine g_istore d_27_187 (Nat.le_of_ble_eq_true rfl) rfl ?_
  refine g_iload d_27_189 rfl ?_
  refine g_iload d_27_191 rfl ?_
  exact g_icmp_ne (tgt := 200) d_27_193 (by decide) (fun q => g_mask [true, false, true, true, true, true, true, false, false, false, true, true, false] (kt q)) (fun q => g_mask [true, false, true, true, true, true, true, false, false, false, true, true, false] (kf q))

theorem k_27_178 {X : GX} {d : Nat} {h : Hp} {v2 : Int32} {v3 : Nat} {v4 : Int32} {v5 : Int32} {v6 : Int32} {v10 : Int32} (b0 : IA 11 (v5 + 2)) (kt : ¬ v10 = (h 11 (Int32.toNatClampNeg (v5 + 2))) → G X d 27 200 [some (.ref 7), none, some (.int v2), some (.ref v3), some (.int v4), some (.int v5), some (.int v6), none, none, none, some (.int v10), some (.int (h 11 (Int32.toNatClampNeg (v5 + 2)))), none] [] h) (kf : v10 = (h 11 (Int32.toNatClampNeg (v5 + 2))) → G X d 27 196 [some (.ref 7), none, some (.int v2), some (.ref v3), some (.int v4), some (.int v5), some (.int v6), none, none, none, some (.int v10), some (.int (h 11 (Int32.toNatClampNeg (v5 + 2)))), none] [] h) : G X d 27 178 [some (.ref 7), none, some (.int v2), some (.ref v3), some (.int v4), some (.int v5), some (.int v6), none, none, none, some (.int v10), none, none] [] h := by
  refine g_aload_n d_27_178 rfl rfl ?_
  refine g_getf (ci := 5) (k := 3) d_27_179 wd_8 (Nat.le_of_ble_eq_true rfl) rfl rfl ?_
  refine g_iload d_27_182 rfl ?_
  refine g_iconst (v := 2) d_27_184 (by decide) ?_
  refine g_iadd d_27_185 ?_
  refine g_iald d_27_186 b0 ?_
  refine g_istore d_27_187 (Nat.le_of_ble_eq_true rfl) rfl ?_
  refine g_iload d_27_189 rfl ?_
  refine g_iload d_27_191 rfl ?_
  exact g_icmp_ne (tgt := 200) d_27_193 (by decide) kt kf

theorem k_27_196 {X : GX} {d : Nat} {h : Hp} {v2 : Int32} {v3 : Nat} {v4 : Int32} {v5 : Int32} {v6 : Int32} {v10 : Int32} {v11 : Int32} (kt : ¬ v6 = 20 → G X d 27 224 [some (.ref 7), none, some (.int v2), some (.ref v3), some (.int v4), some (.int v5), some (.int v6), none, none, none, some (.int v10), some (.int v11), some (.int 1)] [] h) (kf : v6 = 20 → G X d 27 210 [some (.ref 7), none, some (.int v2), some (.ref v3), some (.int v4), some (.int v5), some (.int v6), none, none, none, some (.int v10), some (.int v11), none] [] h) : G X d 27 196 [some (.ref 7), none, some (.int v2), some (.ref v3), some (.int v4), some (.int v5), some (.int v6), none, none, none, some (.int v10), some (.int v11), none] [] h := by
  refine g_iconst (v := 1) d_27_196 (by decide) ?_
  refine g_goto (tgt := 201) d_27_197 (by decide) ?_
  refine g_istore d_27_201 (Nat.le_of_ble_eq_true rfl) rfl ?_
  refine g_iload d_27_203 rfl ?_
  refine g_bipush (v := 20) d_27_205 (by decide) ?_
  exact g_icmp_ne (tgt := 224) d_27_207 (by decide) kt (fun q => g_mask [true, false, true, true, true, true, true, false, false, false, true, true, false] (kf q))

theorem k_27_200 {X : GX} {d : Nat} {h : Hp} {v2 : Int32} {v3 : Nat} {v4 : Int32} {v5 : Int32} {v6 : Int32} {v10 : Int32} {v11 : Int32} (kt : ¬ v6 = 20 → G X d 27 224 [some (.ref 7), none, some (.int v2), some (.ref v3), some (.int v4), some (.int v5), some (.int v6), none, none, none, some (.int v10), some (.int v11), some (.int 0)] [] h) (kf : v6 = 20 → G X d 27 210 [some (.ref 7), none, some (.int v2), some (.ref v3), some (.int v4), some (.int v5), some (.int v6), none, none, none, some (.int v10), some (.int v11), none] [] h) : G X d 27 200 [some (.ref 7), none, some (.int v2), some (.ref v3), some (.int v4), some (.int v5), some (.int v6), none, none, none, some (.int v10), some (.int v11), none] [] h := by
  refine g_iconst (v := 0) d_27_200 (by decide) ?_
  refine g_istore d_27_201 (Nat.le_of_ble_eq_true rfl) rfl ?_
  refine g_iload d_27_203 rfl ?_
  refine g_bipush (v := 20) d_27_205 (by decide) ?_
  exact g_icmp_ne (tgt := 224) d_27_207 (by decide) kt (fun q => g_mask [true, false, true, true, true, true, true, false, false, false, true, true, false] (kf q))

theorem k_27_210 {X : GX} {d : Nat} {h : Hp} {v2 : Int32} {v3 : Nat} {v4 : Int32} {v5 : Int32} {v6 : Int32} {v10 : Int32} {v11 : Int32} (kt : v11 ≤ v10 → G X d 27 221 [some (.ref 7), none, some (.int v2), some (.ref v3), some (.int v4), some (.int v5), some (.int v6), none, none, none, some (.int v10), some (.int v11), none] [] h) (kf : ¬ v11 ≤ v10 → G X d 27 217 [some (.ref 7), none, some (.int v2), some (.ref v3), some (.int v4), some (.int v5), some (.int v6), none, none, none, some (.int v10), some (.int v11), none] [] h) : G X d 27 210 [some (.ref 7), none, some (.int v2), some (.ref v3), some (.int v4), some (.int v5), some (.int v6), none, none, none, some (.int v10), some (.int v11), none] [] h := by
  refine g_iload d_27_210 rfl ?_
  refine g_iload d_27_212 rfl ?_
  exact g_icmp_ge (tgt := 221) d_27_214 (by decide) kt kf

theorem k_27_217 {X : GX} {d : Nat} {h : Hp} {v2 : Int32} {v3 : Nat} {v4 : Int32} {v5 : Int32} {v6 : Int32} {v10 : Int32} {v11 : Int32} (kt : ¬ v6 = 22 → G X d 27 245 [some (.ref 7), none, some (.int v2), some (.ref v3), some (.int v4), some (.int v5), none, none, none, none, none, none, some (.int 1)] [] h) (kf : v6 = 22 → G X d 27 231 [some (.ref 7), none, some (.int v2), some (.ref v3), some (.int v4), some (.int v5), none, none, none, none, some (.int v10), some (.int v11), none] [] h) : G X d 27 217 [some (.ref 7), none, some (.int v2), some (.ref v3), some (.int v4), some (.int v5), some (.int v6), none, none, none, some (.int v10), some (.int v11), none] [] h := by
  refine g_iconst (v := 1) d_27_217 (by decide) ?_
  refine g_goto (tgt := 222) d_27_218 (by decide) ?_
  refine g_istore d_27_222 (Nat.le_of_ble_eq_true rfl) rfl ?_
  refine g_iload d_27_224 rfl ?_
  refine g_bipush (v := 22) d_27_226 (by decide) ?_
  exact g_icmp_ne (tgt := 245) d_27_228 (by decide) (fun q => g_mask [true, false, true, true, true, true, false, false, false, false, false, false, true] (kt q)) (fun q => g_mask [true, false, true, true, true, true, false, false, false, false, true, true, false] (kf q))

theorem k_27_221 {X : GX} {d : Nat} {h : Hp} {v2 : Int32} {v3 : Nat} {v4 : Int32} {v5 : Int32} {v6 : Int32} {v10 : Int32} {v11 : Int32} (kt : ¬ v6 = 22 → G X d 27 245 [some (.ref 7), none, some (.int v2), some (.ref v3), some (.int v4), some (.int v5), none, none, none, none, none, none, some (.int 0)] [] h) (kf : v6 = 22 → G X d 27 231 [some (.ref 7), none, some (.int v2), some (.ref v3), some (.int v4), some (.int v5), none, none, none, none, some (.int v10), some (.int v11), none] [] h) : G X d 27 221 [some (.ref 7), none, some (.int v2), some (.ref v3), some (.int v4), some (.int v5), some (.int v6), none, none, none, some (.int v10), some (.int v11), none] [] h := by
  refine g_iconst (v := 0) d_27_221 (by decide) ?_
  refine g_istore d_27_222 (Nat.le_of_ble_eq_true rfl) rfl ?_
  refine g_iload d_27_224 rfl ?_
  refine g_bipush (v := 22) d_27_226 (by decide) ?_
  exact g_icmp_ne (tgt := 245) d_27_228 (by decide) (fun q => g_mask [true, false, true, true, true, true, false, false, false, false, false, false, true] (kt q)) (fun q => g_mask [true, false, true, true, true, true, false, false, false, false, true, true, false] (kf q))

theorem k_27_224 {X : GX} {d : Nat} {h : Hp} {v2 : Int32} {v3 : Nat} {v4 : Int32} {v5 : Int32} {v6 : Int32} {v10 : Int32} {v11 : Int32} {v12 : Int32} (kt : ¬ v6 = 22 → G X d 27 245 [some (.ref 7), none, some (.int v2), some (.ref v3), some (.int v4), some (.int v5), none, none, none, none, none, none, some (.int v12)] [] h) (kf : v6 = 22 → G X d 27 231 [some (.ref 7), none, some (.int v2), some (.ref v3), some (.int v4), some (.int v5), none, none, none, none, some (.int v10), some (.int v11), none] [] h) : G X d 27 224 [some (.ref 7), none, some (.int v2), some (.ref v3), some (.int v4), some (.int v5), some (.int v6), none, none, none, some (.int v10), some (.int v11), some (.int v12)] [] h := by
  refine g_iload d_27_224 rfl ?_
  refine g_bipush (v := 22) d_27_226 (by decide) ?_
  exact g_icmp_ne (tgt := 245) d_27_228 (by decide) (fun q => g_mask [true, false, true, true, true, true, false, false, false, false, false, false, true] (kt q)) (fun q => g_mask [true, false, true, true, true, true, false, false, false, false, true, true, false] (kf q))

theorem k_27_231 {X : GX} {d : Nat} {h : Hp} {v2 : Int32} {v3 : Nat} {v4 : Int32} {v5 : Int32} {v10 : Int32} {v11 : Int32} (kt : v10 ≤ v11 → G X d 27 242 [some (.ref 7), none, some (.int v2), some (.ref v3), some (.int v4), some (.int v5), none, none, none, none, none, none, none] [] h) (kf : ¬ v10 ≤ v11 → G X d 27 238 [some (.ref 7), none, some (.int v2), some (.ref v3), some (.int v4), some (.int v5), none, none, none, none, none, none, none] [] h) : G X d 27 231 [some (.ref 7), none, some (.int v2), some (.ref v3), some (.int v4), some (.int v5), none, none, none, none, some (.int v10), some (.int v11), none] [] h := by
  refine g_iload d_27_231 rfl ?_
  refine g_iload d_27_233 rfl ?_
  exact g_icmp_le (tgt := 242) d_27_235 (by decide) (fun q => g_mask [true, false, true, true, true, true, false, false, false, false, false, false, false] (kt q)) (fun q => g_mask [true, false, true, true, true, true, false, false, false, false, false, false, false] (kf q))

theorem k_27_238 {X : GX} {d : Nat} {h : Hp} {v2 : Int32} {v3 : Nat} {v4 : Int32} {v5 : Int32} (kk : G X d 27 15 [some (.ref 7), none, some (.int v2), some (.ref v3), some (.int ((v4 <<< (1 &&& 31)) ||| 1)), some (.int ((v5 + 2) + 1)), none, none, none, none, none, none, none] [] h) : G X d 27 238 [some (.ref 7), none, some (.int v2), some (.ref v3), some (.int v4), some (.int v5), none, none, none, none, none, none, none] [] h := by
  refine g_iconst (v := 1) d_27_238 (by decide) ?_
  refine g_goto (tgt := 243) d_27_239 (by decide) ?_
  refine g_istore d_27_243 (Nat.le_of_ble_eq_true rfl) rfl ?_
  refine g_iload d_27_245 rfl ?_
  refine g_iconst (v := 1) d_27_247 (by decide) ?_
  refine g_ishl d_27_248 ?_
  refine g_iload d_27_249 rfl ?_
  refine g_if_eq (tgt := 258) d_27_251 (by decide) (fun q => absurd q (by decide)) (fun _ => ?_)
  refine g_iconst (v := 1) d_27_254 (by decide) ?_
  refine g_goto (tgt := 259) d_27_255 (by decide) ?_
  refine g_ior d_27_259 ?_
  refine g_istore d_27_260 (Nat.le_of_ble_eq_true rfl) rfl ?_
  refine g_iinc (w := 2) d_27_262 rfl (by decide) (Nat.le_of_ble_eq_true rfl) rfl ?_
  refine g_iinc (w := 1) d_27_265 rfl (by decide) (Nat.le_of_ble_eq_true rfl) rfl ?_
  refine g_goto (tgt := 15) d_27_268 (by decide) ?_
  exact g_mask [true, false, true, true, true, true, false, false, false, false, false, false, false] kk

theorem k_27_242 {X : GX} {d : Nat} {h : Hp} {v2 : Int32} {v3 : Nat} {v4 : Int32} {v5 : Int32} (kk : G X d 27 15 [some (.ref 7), none, some (.int v2), some (.ref v3), some (.int ((v4 <<< (1 &&& 31)) ||| 0)), some (.int ((v5 + 2) + 1)), none, none, none, none, none, none, none] [] h) : G X d 27 242 [some (.ref 7), none, some (.int v2), some (.ref v3), some (.int v4), some (.int v5), none, none, none, none, none, none, none] [] h := by
  refine g_iconst (v := 0) d_27_242 (by decide) ?_
  refine g_istore d_27_243 (Nat.le_of_ble_eq_true rfl) rfl ?_
  refine g_iload d_27_245 rfl ?_
  refine g_iconst (v := 1) d_27_247 (by decide) ?_
  refine g_ishl d_27_248 ?_
  refine g_iload d_27_249 rfl ?_
  refine g_if_eq (tgt := 258) d_27_251 (by decide) (fun _ => ?_) (fun q => absurd q (by decide))
  refine g_iconst (v := 0) d_27_258 (by decide) ?_
  refine g_ior d_27_259 ?_
  refine g_istore d_27_260 (Nat.le_of_ble_eq_true rfl) rfl ?_
  refine g_iinc (w := 2) d_27_262 rfl (by decide) (Nat.le_of_ble_eq_true rfl) rfl ?_
  refine g_iinc (w := 1) d_27_265 rfl (by decide) (Nat.le_of_ble_eq_true rfl) rfl ?_
  refine g_goto (tgt := 15) d_27_268 (by decide) ?_
  exact g_mask [true, false, true, true, true, true, false, false, false, false, false, false, false] kk

theorem k_27_245 {X : GX} {d : Nat} {h : Hp} {v2 : Int32} {v3 : Nat} {v4 : Int32} {v5 : Int32} {v12 : Int32} (kt : v12 = 0 → G X d 27 258 [some (.ref 7), none, some (.int v2), some (.ref v3), none, some (.int v5), none, none, none, none, none, none, none] [.int (v4 <<< (1 &&& 31))] h) (kf : ¬ v12 = 0 → G X d 27 254 [some (.ref 7), none, some (.int v2), some (.ref v3), none, some (.int v5), none, none, none, none, none, none, none] [.int (v4 <<< (1 &&& 31))] h) : G X d 27 245 [some (.ref 7), none, some (.int v2), some (.ref v3), some (.int v4), some (.int v5), none, none, none, none, none, none, some (.int v12)] [] h := by
  refine g_iload d_27_245 rfl ?_
  refine g_iconst (v := 1) d_27_247 (by decide) ?_
  refine g_ishl d_27_248 ?_
  refine g_iload d_27_249 rfl ?_
  exact g_if_eq (tgt := 258) d_27_251 (by decide) (fun q => g_mask [true, false, true, true, false, true, false, false, false, false, false, false, false] (kt q)) (fun q => g_mask [true, false, true, true, false, true, false, false, false, false, false, false, false] (kf q))

theorem k_27_254 {X : GX} {d : Nat} {h : Hp} {v2 : Int32} {v3 : Nat} {v5 : Int32} {s0 : Int32} (kk : G X d 27 15 [some (.ref 7), none, some (.int v2), some (.ref v3), some (.int (s0 ||| 1)), some (.int ((v5 + 2) + 1)), none, none, none, none, none, none, none] [] h) : G X d 27 254 [some (.ref 7), none, some (.int v2), some (.ref v3), none, some (.int v5), none, none, none, none, none, none, none] [.int s0] h := by
  refine g_iconst (v := 1) d_27_254 (by decide) ?_
  refine g_goto (tgt := 259) d_27_255 (by decide) ?_
  refine g_ior d_27_259 ?_
  refine g_istore d_27_260 (Nat.le_of_ble_eq_true rfl) rfl ?_
  refine g_iinc (w := 2) d_27_262 rfl (by decide) (Nat.le_of_ble_eq_true rfl) rfl ?_
  refine g_iinc (w := 1) d_27_265 rfl (by decide) (Nat.le_of_ble_eq_true rfl) rfl ?_
  refine g_goto (tgt := 15) d_27_268 (by decide) ?_
  exact kk

theorem k_27_258 {X : GX} {d : Nat} {h : Hp} {v2 : Int32} {v3 : Nat} {v5 : Int32} {s0 : Int32} (kk : G X d 27 15 [some (.ref 7), none, some (.int v2), some (.ref v3), some (.int (s0 ||| 0)), some (.int ((v5 + 2) + 1)), none, none, none, none, none, none, none] [] h) : G X d 27 258 [some (.ref 7), none, some (.int v2), some (.ref v3), none, some (.int v5), none, none, none, none, none, none, none] [.int s0] h := by
  refine g_iconst (v := 0) d_27_258 (by decide) ?_
  refine g_ior d_27_259 ?_
  refine g_istore d_27_260 (Nat.le_of_ble_eq_true rfl) rfl ?_
  refine g_iinc (w := 2) d_27_262 rfl (by decide) (Nat.le_of_ble_eq_true rfl) rfl ?_
  refine g_iinc (w := 1) d_27_265 rfl (by decide) (Nat.le_of_ble_eq_true rfl) rfl ?_
  refine g_goto (tgt := 15) d_27_268 (by decide) ?_
  exact kk

theorem k_27_265 {X : GX} {d : Nat} {h : Hp} {v2 : Int32} {v3 : Nat} {v4 : Int32} {v5 : Int32} (kk : G X d 27 15 [some (.ref 7), none, some (.int v2), some (.ref v3), some (.int v4), some (.int (v5 + 1)), none, none, none, none, none, none, none] [] h) : G X d 27 265 [some (.ref 7), none, some (.int v2), some (.ref v3), some (.int v4), some (.int v5), none, none, none, none, none, none, none] [] h := by
  refine g_iinc (w := 1) d_27_265 rfl (by decide) (Nat.le_of_ble_eq_true rfl) rfl ?_
  refine g_goto (tgt := 15) d_27_268 (by decide) ?_
  exact kk

theorem k_27_271 {X : GX} {d : Nat} {h : Hp} {v4 : Int32} (kt : ¬ (v4 &&& 1) = 1 → G X d 27 283 [none, none, none, none, none, none, none, none, none, none, none, none, none] [] h) (kf : (v4 &&& 1) = 1 → G X d 27 279 [none, none, none, none, none, none, none, none, none, none, none, none, none] [] h) : G X d 27 271 [none, none, none, none, some (.int v4), none, none, none, none, none, none, none, none] [] h := by
  refine g_iload d_27_271 rfl ?_
  refine g_iconst (v := 1) d_27_273 (by decide) ?_
  refine g_iand d_27_274 ?_
  refine g_iconst (v := 1) d_27_275 (by decide) ?_
  exact g_icmp_ne (tgt := 283) d_27_276 (by decide) (fun q => g_mask [false, false, false, false, false, false, false, false, false, false, false, false, false] (kt q)) (fun q => g_mask [false, false, false, false, false, false, false, false, false, false, false, false, false] (kf q))

theorem k_27_279 {X : GX} {d : Nat} {h : Hp} (hq : RtX X (some (.int 1)) h) : G X d 27 279 [none, none, none, none, none, none, none, none, none, none, none, none, none] [] h := by
  refine g_iconst (v := 1) d_27_279 (by decide) ?_
  refine g_goto (tgt := 284) d_27_280 (by decide) ?_
  exact g_retz d_27_284 rfl z01_1 hq

theorem k_27_283 {X : GX} {d : Nat} {h : Hp} (hq : RtX X (some (.int 0)) h) : G X d 27 283 [none, none, none, none, none, none, none, none, none, none, none, none, none] [] h := by
  refine g_iconst (v := 0) d_27_283 (by decide) ?_
  exact g_retz d_27_284 rfl z01_0 hq

/-! 65 PlayedTruth$Rules.clear()V -/
theorem k_65_0 {X : GX} {d : Nat} {h : Hp} (hq : RtX X none (wr (wr h 23 4 0) 23 5 0)) : G X d 65 0 [some (.ref 23)] [] h := by
  refine g_aload_n d_65_0 rfl rfl ?_
  refine g_iconst (v := 0) d_65_1 (by decide) ?_
  refine g_putf (ci := 5) (k := 4) d_65_2 wd_9 (Nat.le_of_ble_eq_true rfl) (Nat.le_of_ble_eq_true rfl) rfl rfl (Or.inl ⟨rfl, rfl⟩) rfl ?_
  refine g_aload_n d_65_5 rfl rfl ?_
  refine g_iconst (v := 0) d_65_6 (by decide) ?_
  refine g_putf (ci := 5) (k := 5) d_65_7 wd_10 (Nat.le_of_ble_eq_true rfl) (Nat.le_of_ble_eq_true rfl) rfl rfl (Or.inl ⟨rfl, rfl⟩) rfl ?_
  exact g_retv d_65_10 rfl hq

/-! 76 PlayedTruth$Rules.addStep(I)V -/
theorem k_76_0 {X : GX} {d : Nat} {h : Hp} {v1 : Int32} (kt : 200 ≤ (h 23 4) → G X d 76 27 [none, none] [] h) (kf : ¬ 200 ≤ (h 23 4) → G X d 76 10 [some (.ref 23), some (.int v1)] [] h) : G X d 76 0 [some (.ref 23), some (.int v1)] [] h := by
  refine g_aload_n d_76_0 rfl rfl ?_
  refine g_getf (ci := 5) (k := 4) d_76_1 wd_9 (Nat.le_of_ble_eq_true rfl) rfl rfl ?_
  refine g_sipush (v := 200) d_76_4 (by decide) ?_
  exact g_icmp_ge (tgt := 27) d_76_7 (by decide) (fun q => g_mask [false, false] (kt q)) kf

theorem k_76_10 {X : GX} {d : Nat} {h : Hp} {v1 : Int32} (b0 : IA 27 (h 23 4)) (hq : RtX X none (wr (wr h 23 4 ((h 23 4) + 1)) 27 (Int32.toNatClampNeg (h 23 4)) v1)) : G X d 76 10 [some (.ref 23), some (.int v1)] [] h := by
  refine g_aload_n d_76_10 rfl rfl ?_
  refine g_getf (ci := 5) (k := 3) d_76_11 wd_8 (Nat.le_of_ble_eq_true rfl) rfl rfl ?_
  refine g_aload_n d_76_14 rfl rfl ?_
  refine g_dup d_76_15 rfl ?_
  refine g_getf (ci := 5) (k := 4) d_76_16 wd_9 (Nat.le_of_ble_eq_true rfl) rfl rfl ?_
  refine g_dup_x1 d_76_19 rfl rfl ?_
  refine g_iconst (v := 1) d_76_20 (by decide) ?_
  refine g_iadd d_76_21 ?_
  refine g_putf (ci := 5) (k := 4) d_76_22 wd_9 (Nat.le_of_ble_eq_true rfl) (Nat.le_of_ble_eq_true rfl) rfl rfl (Or.inl ⟨rfl, rfl⟩) rfl ?_
  refine g_iload_n d_76_25 rfl rfl ?_
  refine g_iast d_76_26 b0 ?_
  exact g_retv d_76_27 rfl hq

theorem k_76_27 {X : GX} {d : Nat} {h : Hp} (hq : RtX X none h) : G X d 76 27 [none, none] [] h := by
  exact g_retv d_76_27 rfl hq

/-! 77 PlayedTruth$Rules.addRule(II)V -/
theorem k_77_0 {X : GX} {d : Nat} {h : Hp} {v1 : Int32} {v2 : Int32} (kt : (h 23 5) < 8 → G X d 77 10 [some (.ref 23), some (.int v1), some (.int v2)] [] h) (kf : ¬ (h 23 5) < 8 → G X d 77 9 [none, none, none] [] h) : G X d 77 0 [some (.ref 23), some (.int v1), some (.int v2)] [] h := by
  refine g_aload_n d_77_0 rfl rfl ?_
  refine g_getf (ci := 5) (k := 5) d_77_1 wd_10 (Nat.le_of_ble_eq_true rfl) rfl rfl ?_
  refine g_bipush (v := 8) d_77_4 (by decide) ?_
  exact g_icmp_lt (tgt := 10) d_77_6 (by decide) kt (fun q => g_mask [false, false, false] (kf q))

theorem k_77_9 {X : GX} {d : Nat} {h : Hp} (hq : RtX X none h) : G X d 77 9 [none, none, none] [] h := by
  exact g_retv d_77_9 rfl hq

theorem k_77_10 {X : GX} {d : Nat} {h : Hp} {v1 : Int32} {v2 : Int32} (b0 : IA 24 (h 23 5)) (b1 : IA 25 ((wr h 24 (Int32.toNatClampNeg (h 23 5)) v1) 23 5)) (b2 : IA 26 ((wr (wr h 24 (Int32.toNatClampNeg (h 23 5)) v1) 25 (Int32.toNatClampNeg ((wr h 24 (Int32.toNatClampNeg (h 23 5)) v1) 23 5)) v2) 23 5)) (hq : RtX X none (wr (wr (wr (wr h 24 (Int32.toNatClampNeg (h 23 5)) v1) 25 (Int32.toNatClampNeg ((wr h 24 (Int32.toNatClampNeg (h 23 5)) v1) 23 5)) v2) 26 (Int32.toNatClampNeg ((wr (wr h 24 (Int32.toNatClampNeg (h 23 5)) v1) 25 (Int32.toNatClampNeg ((wr h 24 (Int32.toNatClampNeg (h 23 5)) v1) 23 5)) v2) 23 5)) ((wr (wr h 24 (Int32.toNatClampNeg (h 23 5)) v1) 25 (Int32.toNatClampNeg ((wr h 24 (Int32.toNatClampNeg (h 23 5)) v1) 23 5)) v2) 23 4)) 23 5 (((wr (wr (wr h 24 (Int32.toNatClampNeg (h 23 5)) v1) 25 (Int32.toNatClampNeg ((wr h 24 (Int32.toNatClampNeg (h 23 5)) v1) 23 5)) v2) 26 (Int32.toNatClampNeg ((wr (wr h 24 (Int32.toNatClampNeg (h 23 5)) v1) 25 (Int32.toNatClampNeg ((wr h 24 (Int32.toNatClampNeg (h 23 5)) v1) 23 5)) v2) 23 5)) ((wr (wr h 24 (Int32.toNatClampNeg (h 23 5)) v1) 25 (Int32.toNatClampNeg ((wr h 24 (Int32.toNatClampNeg (h 23 5)) v1) 23 5)) v2) 23 4)) 23 5) + 1))) : G X d 77 10 [some (.ref 23), some (.int v1), some (.int v2)] [] h := by
  refine g_aload_n d_77_10 rfl rfl ?_
  refine g_getf (ci := 5) (k := 0) d_77_11 wd_5 (Nat.le_of_ble_eq_true rfl) rfl rfl ?_
  refine g_aload_n d_77_14 rfl rfl ?_
  refine g_getf (ci := 5) (k := 5) d_77_15 wd_10 (Nat.le_of_ble_eq_true rfl) rfl rfl ?_
  refine g_iload_n d_77_18 rfl rfl ?_
  refine g_iast d_77_19 b0 ?_
  refine g_aload_n d_77_20 rfl rfl ?_
  refine g_getf (ci := 5) (k := 1) d_77_21 wd_6 (Nat.le_of_ble_eq_true rfl) rfl rfl ?_
  refine g_aload_n d_77_24 rfl rfl ?_
  refine g_getf (ci := 5) (k := 5) d_77_25 wd_10 (Nat.le_of_ble_eq_true rfl) rfl rfl ?_
  refine g_iload_n d_77_28 rfl rfl ?_
  refine g_iast d_77_29 b1 ?_
  refine g_aload_n d_77_30 rfl rfl ?_
  refine g_getf (ci := 5) (k := 2) d_77_31 wd_7 (Nat.le_of_ble_eq_true rfl) rfl rfl ?_
  refine g_aload_n d_77_34 rfl rfl ?_
  refine g_getf (ci := 5) (k := 5) d_77_35 wd_10 (Nat.le_of_ble_eq_true rfl) rfl rfl ?_
  refine g_aload_n d_77_38 rfl rfl ?_
  refine g_getf (ci := 5) (k := 4) d_77_39 wd_9 (Nat.le_of_ble_eq_true rfl) rfl rfl ?_
  refine g_iast d_77_42 b2 ?_
  refine g_aload_n d_77_43 rfl rfl ?_
  refine g_dup d_77_44 rfl ?_
  refine g_getf (ci := 5) (k := 5) d_77_45 wd_10 (Nat.le_of_ble_eq_true rfl) rfl rfl ?_
  refine g_iconst (v := 1) d_77_48 (by decide) ?_
  refine g_iadd d_77_49 ?_
  refine g_putf (ci := 5) (k := 5) d_77_50 wd_10 (Nat.le_of_ble_eq_true rfl) (Nat.le_of_ble_eq_true rfl) rfl rfl (Or.inl ⟨rfl, rfl⟩) rfl ?_
  exact g_retv d_77_53 rfl hq

/-! 78 PlayedTruth$Rules.copyFrom(LPlayedTruth$Rules;)V -/
theorem k_78_0 {X : GX} {d : Nat} {h : Hp} {v0 : Nat} {v1 : Nat} (o0 : sh v1 = (1, 5)) (o1 : sh v0 = (1, 5)) (dd2 : 0 < d) (o3 : sh (v1 + 1) = (0, 8)) (o4 : sh (v0 + 1) = (0, 8)) (o5 : sh (v1 + 2) = (0, 8)) (o6 : sh (v0 + 2) = (0, 8)) (o7 : sh (v1 + 3) = (0, 8)) (o8 : sh (v0 + 3) = (0, 8)) (o9 : sh (v1 + 4) = (0, 200)) (o10 : sh (v0 + 4) = (0, 200)) (hq : RtX X none (wr (wr (wrA (wrA (wrA (wrA h (v0 + 1) (va_cpy (h (v1 + 1)) (h (v0 + 1)) (Int32.toNatClampNeg 0) (Int32.toNatClampNeg 0) (Int32.toNatClampNeg 8))) (v0 + 2) (va_cpy ((wrA h (v0 + 1) (va_cpy (h (v1 + 1)) (h (v0 + 1)) (Int32.toNatClampNeg 0) (Int32.toNatClampNeg 0) (Int32.toNatClampNeg 8))) (v1 + 2)) ((wrA h (v0 + 1) (va_cpy (h (v1 + 1)) (h (v0 + 1)) (Int32.toNatClampNeg 0) (Int32.toNatClampNeg 0) (Int32.toNatClampNeg 8))) (v0 + 2)) (Int32.toNatClampNeg 0) (Int32.toNatClampNeg 0) (Int32.toNatClampNeg 8))) (v0 + 3) (va_cpy ((wrA (wrA h (v0 + 1) (va_cpy (h (v1 + 1)) (h (v0 + 1)) (Int32.toNatClampNeg 0) (Int32.toNatClampNeg 0) (Int32.toNatClampNeg 8))) (v0 + 2) (va_cpy ((wrA h (v0 + 1) (va_cpy (h (v1 + 1)) (h (v0 + 1)) (Int32.toNatClampNeg 0) (Int32.toNatClampNeg 0) (Int32.toNatClampNeg 8))) (v1 + 2)) ((wrA h (v0 + 1) (va_cpy (h (v1 + 1)) (h (v0 + 1)) (Int32.toNatClampNeg 0) (Int32.toNatClampNeg 0) (Int32.toNatClampNeg 8))) (v0 + 2)) (Int32.toNatClampNeg 0) (Int32.toNatClampNeg 0) (Int32.toNatClampNeg 8))) (v1 + 3)) ((wrA (wrA h (v0 + 1) (va_cpy (h (v1 + 1)) (h (v0 + 1)) (Int32.toNatClampNeg 0) (Int32.toNatClampNeg 0) (Int32.toNatClampNeg 8))) (v0 + 2) (va_cpy ((wrA h (v0 + 1) (va_cpy (h (v1 + 1)) (h (v0 + 1)) (Int32.toNatClampNeg 0) (Int32.toNatClampNeg 0) (Int32.toNatClampNeg 8))) (v1 + 2)) ((wrA h (v0 + 1) (va_cpy (h (v1 + 1)) (h (v0 + 1)) (Int32.toNatClampNeg 0) (Int32.toNatClampNeg 0) (Int32.toNatClampNeg 8))) (v0 + 2)) (Int32.toNatClampNeg 0) (Int32.toNatClampNeg 0) (Int32.toNatClampNeg 8))) (v0 + 3)) (Int32.toNatClampNeg 0) (Int32.toNatClampNeg 0) (Int32.toNatClampNeg 8))) (v0 + 4) (va_cpy ((wrA (wrA (wrA h (v0 + 1) (va_cpy (h (v1 + 1)) (h (v0 + 1)) (Int32.toNatClampNeg 0) (Int32.toNatClampNeg 0) (Int32.toNatClampNeg 8))) (v0 + 2) (va_cpy ((wrA h (v0 + 1) (va_cpy (h (v1 + 1)) (h (v0 + 1)) (Int32.toNatClampNeg 0) (Int32.toNatClampNeg 0) (Int32.toNatClampNeg 8))) (v1 + 2)) ((wrA h (v0 + 1) (va_cpy (h (v1 + 1)) (h (v0 + 1)) (Int32.toNatClampNeg 0) (Int32.toNatClampNeg 0) (Int32.toNatClampNeg 8))) (v0 + 2)) (Int32.toNatClampNeg 0) (Int32.toNatClampNeg 0) (Int32.toNatClampNeg 8))) (v0 + 3) (va_cpy ((wrA (wrA h (v0 + 1) (va_cpy (h (v1 + 1)) (h (v0 + 1)) (Int32.toNatClampNeg 0) (Int32.toNatClampNeg 0) (Int32.toNatClampNeg 8))) (v0 + 2) (va_cpy ((wrA h (v0 + 1) (va_cpy (h (v1 + 1)) (h (v0 + 1)) (Int32.toNatClampNeg 0) (Int32.toNatClampNeg 0) (Int32.toNatClampNeg 8))) (v1 + 2)) ((wrA h (v0 + 1) (va_cpy (h (v1 + 1)) (h (v0 + 1)) (Int32.toNatClampNeg 0) (Int32.toNatClampNeg 0) (Int32.toNatClampNeg 8))) (v0 + 2)) (Int32.toNatClampNeg 0) (Int32.toNatClampNeg 0) (Int32.toNatClampNeg 8))) (v1 + 3)) ((wrA (wrA h (v0 + 1) (va_cpy (h (v1 + 1)) (h (v0 + 1)) (Int32.toNatClampNeg 0) (Int32.toNatClampNeg 0) (Int32.toNatClampNeg 8))) (v0 + 2) (va_cpy ((wrA h (v0 + 1) (va_cpy (h (v1 + 1)) (h (v0 + 1)) (Int32.toNatClampNeg 0) (Int32.toNatClampNeg 0) (Int32.toNatClampNeg 8))) (v1 + 2)) ((wrA h (v0 + 1) (va_cpy (h (v1 + 1)) (h (v0 + 1)) (Int32.toNatClampNeg 0) (Int32.toNatClampNeg 0) (Int32.toNatClampNeg 8))) (v0 + 2)) (Int32.toNatClampNeg 0) (Int32.toNatClampNeg 0) (Int32.toNatClampNeg 8))) (v0 + 3)) (Int32.toNatClampNeg 0) (Int32.toNatClampNeg 0) (Int32.toNatClampNeg 8))) (v1 + 4)) ((wrA (wrA (wrA h (v0 + 1) (va_cpy (h (v1 + 1)) (h (v0 + 1)) (Int32.toNatClampNeg 0) (Int32.toNatClampNeg 0) (Int32.toNatClampNeg 8))) (v0 + 2) (va_cpy ((wrA h (v0 + 1) (va_cpy (h (v1 + 1)) (h (v0 + 1)) (Int32.toNatClampNeg 0) (Int32.toNatClampNeg 0) (Int32.toNatClampNeg 8))) (v1 + 2)) ((wrA h (v0 + 1) (va_cpy (h (v1 + 1)) (h (v0 + 1)) (Int32.toNatClampNeg 0) (Int32.toNatClampNeg 0) (Int32.toNatClampNeg 8))) (v0 + 2)) (Int32.toNatClampNeg 0) (Int32.toNatClampNeg 0) (Int32.toNatClampNeg 8))) (v0 + 3) (va_cpy ((wrA (wrA h (v0 + 1) (va_cpy (h (v1 + 1)) (h (v0 + 1)) (Int32.toNatClampNeg 0) (Int32.toNatClampNeg 0) (Int32.toNatClampNeg 8))) (v0 + 2) (va_cpy ((wrA h (v0 + 1) (va_cpy (h (v1 + 1)) (h (v0 + 1)) (Int32.toNatClampNeg 0) (Int32.toNatClampNeg 0) (Int32.toNatClampNeg 8))) (v1 + 2)) ((wrA h (v0 + 1) (va_cpy (h (v1 + 1)) (h (v0 + 1)) (Int32.toNatClampNeg 0) (Int32.toNatClampNeg 0) (Int32.toNatClampNeg 8))) (v0 + 2)) (Int32.toNatClampNeg 0) (Int32.toNatClampNeg 0) (Int32.toNatClampNeg 8))) (v1 + 3)) ((wrA (wrA h (v0 + 1) (va_cpy (h (v1 + 1)) (h (v0 + 1)) (Int32.toNatClampNeg 0) (Int32.toNatClampNeg 0) (Int32.toNatClampNeg 8))) (v0 + 2) (va_cpy ((wrA h (v0 + 1) (va_cpy (h (v1 + 1)) (h (v0 + 1)) (Int32.toNatClampNeg 0) (Int32.toNatClampNeg 0) (Int32.toNatClampNeg 8))) (v1 + 2)) ((wrA h (v0 + 1) (va_cpy (h (v1 + 1)) (h (v0 + 1)) (Int32.toNatClampNeg 0) (Int32.toNatClampNeg 0) (Int32.toNatClampNeg 8))) (v0 + 2)) (Int32.toNatClampNeg 0) (Int32.toNatClampNeg 0) (Int32.toNatClampNeg 8))) (v0 + 3)) (Int32.toNatClampNeg 0) (Int32.toNatClampNeg 0) (Int32.toNatClampNeg 8))) (v0 + 4)) (Int32.toNatClampNeg 0) (Int32.toNatClampNeg 0) (Int32.toNatClampNeg 200))) v0 4 ((wrA (wrA (wrA (wrA h (v0 + 1) (va_cpy (h (v1 + 1)) (h (v0 + 1)) (Int32.toNatClampNeg 0) (Int32.toNatClampNeg 0) (Int32.toNatClampNeg 8))) (v0 + 2) (va_cpy ((wrA h (v0 + 1) (va_cpy (h (v1 + 1)) (h (v0 + 1)) (Int32.toNatClampNeg 0) (Int32.toNatClampNeg 0) (Int32.toNatClampNeg 8))) (v1 + 2)) ((wrA h (v0 + 1) (va_cpy (h (v1 + 1)) (h (v0 + 1)) (Int32.toNatClampNeg 0) (Int32.toNatClampNeg 0) (Int32.toNatClampNeg 8))) (v0 + 2)) (Int32.toNatClampNeg 0) (Int32.toNatClampNeg 0) (Int32.toNatClampNeg 8))) (v0 + 3) (va_cpy ((wrA (wrA h (v0 + 1) (va_cpy (h (v1 + 1)) (h (v0 + 1)) (Int32.toNatClampNeg 0) (Int32.toNatClampNeg 0) (Int32.toNatClampNeg 8))) (v0 + 2) (va_cpy ((wrA h (v0 + 1) (va_cpy (h (v1 + 1)) (h (v0 + 1)) (Int32.toNatClampNeg 0) (Int32.toNatClampNeg 0) (Int32.toNatClampNeg 8))) (v1 + 2)) ((wrA h (v0 + 1) (va_cpy (h (v1 + 1)) (h (v0 + 1)) (Int32.toNatClampNeg 0) (Int32.toNatClampNeg 0) (Int32.toNatClampNeg 8))) (v0 + 2)) (Int32.toNatClampNeg 0) (Int32.toNatClampNeg 0) (Int32.toNatClampNeg 8))) (v1 + 3)) ((wrA (wrA h (v0 + 1) (va_cpy (h (v1 + 1)) (h (v0 + 1)) (Int32.toNatClampNeg 0) (Int32.toNatClampNeg 0) (Int32.toNatClampNeg 8))) (v0 + 2) (va_cpy ((wrA h (v0 + 1) (va_cpy (h (v1 + 1)) (h (v0 + 1)) (Int32.toNatClampNeg 0) (Int32.toNatClampNeg 0) (Int32.toNatClampNeg 8))) (v1 + 2)) ((wrA h (v0 + 1) (va_cpy (h (v1 + 1)) (h (v0 + 1)) (Int32.toNatClampNeg 0) (Int32.toNatClampNeg 0) (Int32.toNatClampNeg 8))) (v0 + 2)) (Int32.toNatClampNeg 0) (Int32.toNatClampNeg 0) (Int32.toNatClampNeg 8))) (v0 + 3)) (Int32.toNatClampNeg 0) (Int32.toNatClampNeg 0) (Int32.toNatClampNeg 8))) (v0 + 4) (va_cpy ((wrA (wrA (wrA h (v0 + 1) (va_cpy (h (v1 + 1)) (h (v0 + 1)) (Int32.toNatClampNeg 0) (Int32.toNatClampNeg 0) (Int32.toNatClampNeg 8))) (v0 + 2) (va_cpy ((wrA h (v0 + 1) (va_cpy (h (v1 + 1)) (h (v0 + 1)) (Int32.toNatClampNeg 0) (Int32.toNatClampNeg 0) (Int32.toNatClampNeg 8))) (v1 + 2)) ((wrA h (v0 + 1) (va_cpy (h (v1 + 1)) (h (v0 + 1)) (Int32.toNatClampNeg 0) (Int32.toNatClampNeg 0) (Int32.toNatClampNeg 8))) (v0 + 2)) (Int32.toNatClampNeg 0) (Int32.toNatClampNeg 0) (Int32.toNatClampNeg 8))) (v0 + 3) (va_cpy ((wrA (wrA h (v0 + 1) (va_cpy (h (v1 + 1)) (h (v0 + 1)) (Int32.toNatClampNeg 0) (Int32.toNatClampNeg 0) (Int32.toNatClampNeg 8))) (v0 + 2) (va_cpy ((wrA h (v0 + 1) (va_cpy (h (v1 + 1)) (h (v0 + 1)) (Int32.toNatClampNeg 0) (Int32.toNatClampNeg 0) (Int32.toNatClampNeg 8))) (v1 + 2)) ((wrA h (v0 + 1) (va_cpy (h (v1 + 1)) (h (v0 + 1)) (Int32.toNatClampNeg 0) (Int32.toNatClampNeg 0) (Int32.toNatClampNeg 8))) (v0 + 2)) (Int32.toNatClampNeg 0) (Int32.toNatClampNeg 0) (Int32.toNatClampNeg 8))) (v1 + 3)) ((wrA (wrA h (v0 + 1) (va_cpy (h (v1 + 1)) (h (v0 + 1)) (Int32.toNatClampNeg 0) (Int32.toNatClampNeg 0) (Int32.toNatClampNeg 8))) (v0 + 2) (va_cpy ((wrA h (v0 + 1) (va_cpy (h (v1 + 1)) (h (v0 + 1)) (Int32.toNatClampNeg 0) (Int32.toNatClampNeg 0) (Int32.toNatClampNeg 8))) (v1 + 2)) ((wrA h (v0 + 1) (va_cpy (h (v1 + 1)) (h (v0 + 1)) (Int32.toNatClampNeg 0) (Int32.toNatClampNeg 0) (Int32.toNatClampNeg 8))) (v0 + 2)) (Int32.toNatClampNeg 0) (Int32.toNatClampNeg 0) (Int32.toNatClampNeg 8))) (v0 + 3)) (Int32.toNatClampNeg 0) (Int32.toNatClampNeg 0) (Int32.toNatClampNeg 8))) (v1 + 4)) ((wrA (wrA (wrA h (v0 + 1) (va_cpy (h (v1 + 1)) (h (v0 + 1)) (Int32.toNatClampNeg 0) (Int32.toNatClampNeg 0) (Int32.toNatClampNeg 8))) (v0 + 2) (va_cpy ((wrA h (v0 + 1) (va_cpy (h (v1 + 1)) (h (v0 + 1)) (Int32.toNatClampNeg 0) (Int32.toNatClampNeg 0) (Int32.toNatClampNeg 8))) (v1 + 2)) ((wrA h (v0 + 1) (va_cpy (h (v1 + 1)) (h (v0 + 1)) (Int32.toNatClampNeg 0) (Int32.toNatClampNeg 0) (Int32.toNatClampNeg 8))) (v0 + 2)) (Int32.toNatClampNeg 0) (Int32.toNatClampNeg 0) (Int32.toNatClampNeg 8))) (v0 + 3) (va_cpy ((wrA (wrA h (v0 + 1) (va_cpy (h (v1 + 1)) (h (v0 + 1)) (Int32.toNatClampNeg 0) (Int32.toNatClampNeg 0) (Int32.toNatClampNeg 8))) (v0 + 2) (va_cpy ((wrA h (v0 + 1) (va_cpy (h (v1 + 1)) (h (v0 + 1)) (Int32.toNatClampNeg 0) (Int32.toNatClampNeg 0) (Int32.toNatClampNeg 8))) (v1 + 2)) ((wrA h (v0 + 1) (va_cpy (h (v1 + 1)) (h (v0 + 1)) (Int32.toNatClampNeg 0) (Int32.toNatClampNeg 0) (Int32.toNatClampNeg 8))) (v0 + 2)) (Int32.toNatClampNeg 0) (Int32.toNatClampNeg 0) (Int32.toNatClampNeg 8))) (v1 + 3)) ((wrA (wrA h (v0 + 1) (va_cpy (h (v1 + 1)) (h (v0 + 1)) (Int32.toNatClampNeg 0) (Int32.toNatClampNeg 0) (Int32.toNatClampNeg 8))) (v0 + 2) (va_cpy ((wrA h (v0 + 1) (va_cpy (h (v1 + 1)) (h (v0 + 1)) (Int32.toNatClampNeg 0) (Int32.toNatClampNeg 0) (Int32.toNatClampNeg 8))) (v1 + 2)) ((wrA h (v0 + 1) (va_cpy (h (v1 + 1)) (h (v0 + 1)) (Int32.toNatClampNeg 0) (Int32.toNatClampNeg 0) (Int32.toNatClampNeg 8))) (v0 + 2)) (Int32.toNatClampNeg 0) (Int32.toNatClampNeg 0) (Int32.toNatClampNeg 8))) (v0 + 3)) (Int32.toNatClampNeg 0) (Int32.toNatClampNeg 0) (Int32.toNatClampNeg 8))) (v0 + 4)) (Int32.toNatClampNeg 0) (Int32.toNatClampNeg 0) (Int32.toNatClampNeg 200))) v1 4)) v0 5 ((wr (wrA (wrA (wrA (wrA h (v0 + 1) (va_cpy (h (v1 + 1)) (h (v0 + 1)) (Int32.toNatClampNeg 0) (Int32.toNatClampNeg 0) (Int32.toNatClampNeg 8))) (v0 + 2) (va_cpy ((wrA h (v0 + 1) (va_cpy (h (v1 + 1)) (h (v0 + 1)) (Int32.toNatClampNeg 0) (Int32.toNatClampNeg 0) (Int32.toNatClampNeg 8))) (v1 + 2)) ((wrA h (v0 + 1) (va_cpy (h (v1 + 1)) (h (v0 + 1)) (Int32.toNatClampNeg 0) (Int32.toNatClampNeg 0) (Int32.toNatClampNeg 8))) (v0 + 2)) (Int32.toNatClampNeg 0) (Int32.toNatClampNeg 0) (Int32.toNatClampNeg 8))) (v0 + 3) (va_cpy ((wrA (wrA h (v0 + 1) (va_cpy (h (v1 + 1)) (h (v0 + 1)) (Int32.toNatClampNeg 0) (Int32.toNatClampNeg 0) (Int32.toNatClampNeg 8))) (v0 + 2) (va_cpy ((wrA h (v0 + 1) (va_cpy (h (v1 + 1)) (h (v0 + 1)) (Int32.toNatClampNeg 0) (Int32.toNatClampNeg 0) (Int32.toNatClampNeg 8))) (v1 + 2)) ((wrA h (v0 + 1) (va_cpy (h (v1 + 1)) (h (v0 + 1)) (Int32.toNatClampNeg 0) (Int32.toNatClampNeg 0) (Int32.toNatClampNeg 8))) (v0 + 2)) (Int32.toNatClampNeg 0) (Int32.toNatClampNeg 0) (Int32.toNatClampNeg 8))) (v1 + 3)) ((wrA (wrA h (v0 + 1) (va_cpy (h (v1 + 1)) (h (v0 + 1)) (Int32.toNatClampNeg 0) (Int32.toNatClampNeg 0) (Int32.toNatClampNeg 8))) (v0 + 2) (va_cpy ((wrA h (v0 + 1) (va_cpy (h (v1 + 1)) (h (v0 + 1)) (Int32.toNatClampNeg 0) (Int32.toNatClampNeg 0) (Int32.toNatClampNeg 8))) (v1 + 2)) ((wrA h (v0 + 1) (va_cpy (h (v1 + 1)) (h (v0 + 1)) (Int32.toNatClampNeg 0) (Int32.toNatClampNeg 0) (Int32.toNatClampNeg 8))) (v0 + 2)) (Int32.toNatClampNeg 0) (Int32.toNatClampNeg 0) (Int32.toNatClampNeg 8))) (v0 + 3)) (Int32.toNatClampNeg 0) (Int32.toNatClampNeg 0) (Int32.toNatClampNeg 8))) (v0 + 4) (va_cpy ((wrA (wrA (wrA h (v0 + 1) (va_cpy (h (v1 + 1)) (h (v0 + 1)) (Int32.toNatClampNeg 0) (Int32.toNatClampNeg 0) (Int32.toNatClampNeg 8))) (v0 + 2) (va_cpy ((wrA h (v0 + 1) (va_cpy (h (v1 + 1)) (h (v0 + 1)) (Int32.toNatClampNeg 0) (Int32.toNatClampNeg 0) (Int32.toNatClampNeg 8))) (v1 + 2)) ((wrA h (v0 + 1) (va_cpy (h (v1 + 1)) (h (v0 + 1)) (Int32.toNatClampNeg 0) (Int32.toNatClampNeg 0) (Int32.toNatClampNeg 8))) (v0 + 2)) (Int32.toNatClampNeg 0) (Int32.toNatClampNeg 0) (Int32.toNatClampNeg 8))) (v0 + 3) (va_cpy ((wrA (wrA h (v0 + 1) (va_cpy (h (v1 + 1)) (h (v0 + 1)) (Int32.toNatClampNeg 0) (Int32.toNatClampNeg 0) (Int32.toNatClampNeg 8))) (v0 + 2) (va_cpy ((wrA h (v0 + 1) (va_cpy (h (v1 + 1)) (h (v0 + 1)) (Int32.toNatClampNeg 0) (Int32.toNatClampNeg 0) (Int32.toNatClampNeg 8))) (v1 + 2)) ((wrA h (v0 + 1) (va_cpy (h (v1 + 1)) (h (v0 + 1)) (Int32.toNatClampNeg 0) (Int32.toNatClampNeg 0) (Int32.toNatClampNeg 8))) (v0 + 2)) (Int32.toNatClampNeg 0) (Int32.toNatClampNeg 0) (Int32.toNatClampNeg 8))) (v1 + 3)) ((wrA (wrA h (v0 + 1) (va_cpy (h (v1 + 1)) (h (v0 + 1)) (Int32.toNatClampNeg 0) (Int32.toNatClampNeg 0) (Int32.toNatClampNeg 8))) (v0 + 2) (va_cpy ((wrA h (v0 + 1) (va_cpy (h (v1 + 1)) (h (v0 + 1)) (Int32.toNatClampNeg 0) (Int32.toNatClampNeg 0) (Int32.toNatClampNeg 8))) (v1 + 2)) ((wrA h (v0 + 1) (va_cpy (h (v1 + 1)) (h (v0 + 1)) (Int32.toNatClampNeg 0) (Int32.toNatClampNeg 0) (Int32.toNatClampNeg 8))) (v0 + 2)) (Int32.toNatClampNeg 0) (Int32.toNatClampNeg 0) (Int32.toNatClampNeg 8))) (v0 + 3)) (Int32.toNatClampNeg 0) (Int32.toNatClampNeg 0) (Int32.toNatClampNeg 8))) (v1 + 4)) ((wrA (wrA (wrA h (v0 + 1) (va_cpy (h (v1 + 1)) (h (v0 + 1)) (Int32.toNatClampNeg 0) (Int32.toNatClampNeg 0) (Int32.toNatClampNeg 8))) (v0 + 2) (va_cpy ((wrA h (v0 + 1) (va_cpy (h (v1 + 1)) (h (v0 + 1)) (Int32.toNatClampNeg 0) (Int32.toNatClampNeg 0) (Int32.toNatClampNeg 8))) (v1 + 2)) ((wrA h (v0 + 1) (va_cpy (h (v1 + 1)) (h (v0 + 1)) (Int32.toNatClampNeg 0) (Int32.toNatClampNeg 0) (Int32.toNatClampNeg 8))) (v0 + 2)) (Int32.toNatClampNeg 0) (Int32.toNatClampNeg 0) (Int32.toNatClampNeg 8))) (v0 + 3) (va_cpy ((wrA (wrA h (v0 + 1) (va_cpy (h (v1 + 1)) (h (v0 + 1)) (Int32.toNatClampNeg 0) (Int32.toNatClampNeg 0) (Int32.toNatClampNeg 8))) (v0 + 2) (va_cpy ((wrA h (v0 + 1) (va_cpy (h (v1 + 1)) (h (v0 + 1)) (Int32.toNatClampNeg 0) (Int32.toNatClampNeg 0) (Int32.toNatClampNeg 8))) (v1 + 2)) ((wrA h (v0 + 1) (va_cpy (h (v1 + 1)) (h (v0 + 1)) (Int32.toNatClampNeg 0) (Int32.toNatClampNeg 0) (Int32.toNatClampNeg 8))) (v0 + 2)) (Int32.toNatClampNeg 0) (Int32.toNatClampNeg 0) (Int32.toNatClampNeg 8))) (v1 + 3)) ((wrA (wrA h (v0 + 1) (va_cpy (h (v1 + 1)) (h (v0 + 1)) (Int32.toNatClampNeg 0) (Int32.toNatClampNeg 0) (Int32.toNatClampNeg 8))) (v0 + 2) (va_cpy ((wrA h (v0 + 1) (va_cpy (h (v1 + 1)) (h (v0 + 1)) (Int32.toNatClampNeg 0) (Int32.toNatClampNeg 0) (Int32.toNatClampNeg 8))) (v1 + 2)) ((wrA h (v0 + 1) (va_cpy (h (v1 + 1)) (h (v0 + 1)) (Int32.toNatClampNeg 0) (Int32.toNatClampNeg 0) (Int32.toNatClampNeg 8))) (v0 + 2)) (Int32.toNatClampNeg 0) (Int32.toNatClampNeg 0) (Int32.toNatClampNeg 8))) (v0 + 3)) (Int32.toNatClampNeg 0) (Int32.toNatClampNeg 0) (Int32.toNatClampNeg 8))) (v0 + 4)) (Int32.toNatClampNeg 0) (Int32.toNatClampNeg 0) (Int32.toNatClampNeg 200))) v0 4 ((wrA (wrA (wrA (wrA h (v0 + 1) (va_cpy (h (v1 + 1)) (h (v0 + 1)) (Int32.toNatClampNeg 0) (Int32.toNatClampNeg 0) (Int32.toNatClampNeg 8))) (v0 + 2) (va_cpy ((wrA h (v0 + 1) (va_cpy (h (v1 + 1)) (h (v0 + 1)) (Int32.toNatClampNeg 0) (Int32.toNatClampNeg 0) (Int32.toNatClampNeg 8))) (v1 + 2)) ((wrA h (v0 + 1) (va_cpy (h (v1 + 1)) (h (v0 + 1)) (Int32.toNatClampNeg 0) (Int32.toNatClampNeg 0) (Int32.toNatClampNeg 8))) (v0 + 2)) (Int32.toNatClampNeg 0) (Int32.toNatClampNeg 0) (Int32.toNatClampNeg 8))) (v0 + 3) (va_cpy ((wrA (wrA h (v0 + 1) (va_cpy (h (v1 + 1)) (h (v0 + 1)) (Int32.toNatClampNeg 0) (Int32.toNatClampNeg 0) (Int32.toNatClampNeg 8))) (v0 + 2) (va_cpy ((wrA h (v0 + 1) (va_cpy (h (v1 + 1)) (h (v0 + 1)) (Int32.toNatClampNeg 0) (Int32.toNatClampNeg 0) (Int32.toNatClampNeg 8))) (v1 + 2)) ((wrA h (v0 + 1) (va_cpy (h (v1 + 1)) (h (v0 + 1)) (Int32.toNatClampNeg 0) (Int32.toNatClampNeg 0) (Int32.toNatClampNeg 8))) (v0 + 2)) (Int32.toNatClampNeg 0) (Int32.toNatClampNeg 0) (Int32.toNatClampNeg 8))) (v1 + 3)) ((wrA (wrA h (v0 + 1) (va_cpy (h (v1 + 1)) (h (v0 + 1)) (Int32.toNatClampNeg 0) (Int32.toNatClampNeg 0) (Int32.toNatClampNeg 8))) (v0 + 2) (va_cpy ((wrA h (v0 + 1) (va_cpy (h (v1 + 1)) (h (v0 + 1)) (Int32.toNatClampNeg 0) (Int32.toNatClampNeg 0) (Int32.toNatClampNeg 8))) (v1 + 2)) ((wrA h (v0 + 1) (va_cpy (h (v1 + 1)) (h (v0 + 1)) (Int32.toNatClampNeg 0) (Int32.toNatClampNeg 0) (Int32.toNatClampNeg 8))) (v0 + 2)) (Int32.toNatClampNeg 0) (Int32.toNatClampNeg 0) (Int32.toNatClampNeg 8))) (v0 + 3)) (Int32.toNatClampNeg 0) (Int32.toNatClampNeg 0) (Int32.toNatClampNeg 8))) (v0 + 4) (va_cpy ((wrA (wrA (wrA h (v0 + 1) (va_cpy (h (v1 + 1)) (h (v0 + 1)) (Int32.toNatClampNeg 0) (Int32.toNatClampNeg 0) (Int32.toNatClampNeg 8))) (v0 + 2) (va_cpy ((wrA h (v0 + 1) (va_cpy (h (v1 + 1)) (h (v0 + 1)) (Int32.toNatClampNeg 0) (Int32.toNatClampNeg 0) (Int32.toNatClampNeg 8))) (v1 + 2)) ((wrA h (v0 + 1) (va_cpy (h (v1 + 1)) (h (v0 + 1)) (Int32.toNatClampNeg 0) (Int32.toNatClampNeg 0) (Int32.toNatClampNeg 8))) (v0 + 2)) (Int32.toNatClampNeg 0) (Int32.toNatClampNeg 0) (Int32.toNatClampNeg 8))) (v0 + 3) (va_cpy ((wrA (wrA h (v0 + 1) (va_cpy (h (v1 + 1)) (h (v0 + 1)) (Int32.toNatClampNeg 0) (Int32.toNatClampNeg 0) (Int32.toNatClampNeg 8))) (v0 + 2) (va_cpy ((wrA h (v0 + 1) (va_cpy (h (v1 + 1)) (h (v0 + 1)) (Int32.toNatClampNeg 0) (Int32.toNatClampNeg 0) (Int32.toNatClampNeg 8))) (v1 + 2)) ((wrA h (v0 + 1) (va_cpy (h (v1 + 1)) (h (v0 + 1)) (Int32.toNatClampNeg 0) (Int32.toNatClampNeg 0) (Int32.toNatClampNeg 8))) (v0 + 2)) (Int32.toNatClampNeg 0) (Int32.toNatClampNeg 0) (Int32.toNatClampNeg 8))) (v1 + 3)) ((wrA (wrA h (v0 + 1) (va_cpy (h (v1 + 1)) (h (v0 + 1)) (Int32.toNatClampNeg 0) (Int32.toNatClampNeg 0) (Int32.toNatClampNeg 8))) (v0 + 2) (va_cpy ((wrA h (v0 + 1) (va_cpy (h (v1 + 1)) (h (v0 + 1)) (Int32.toNatClampNeg 0) (Int32.toNatClampNeg 0) (Int32.toNatClampNeg 8))) (v1 + 2)) ((wrA h (v0 + 1) (va_cpy (h (v1 + 1)) (h (v0 + 1)) (Int32.toNatClampNeg 0) (Int32.toNatClampNeg 0) (Int32.toNatClampNeg 8))) (v0 + 2)) (Int32.toNatClampNeg 0) (Int32.toNatClampNeg 0) (Int32.toNatClampNeg 8))) (v0 + 3)) (Int32.toNatClampNeg 0) (Int32.toNatClampNeg 0) (Int32.toNatClampNeg 8))) (v1 + 4)) ((wrA (wrA (wrA h (v0 + 1) (va_cpy (h (v1 + 1)) (h (v0 + 1)) (Int32.toNatClampNeg 0) (Int32.toNatClampNeg 0) (Int32.toNatClampNeg 8))) (v0 + 2) (va_cpy ((wrA h (v0 + 1) (va_cpy (h (v1 + 1)) (h (v0 + 1)) (Int32.toNatClampNeg 0) (Int32.toNatClampNeg 0) (Int32.toNatClampNeg 8))) (v1 + 2)) ((wrA h (v0 + 1) (va_cpy (h (v1 + 1)) (h (v0 + 1)) (Int32.toNatClampNeg 0) (Int32.toNatClampNeg 0) (Int32.toNatClampNeg 8))) (v0 + 2)) (Int32.toNatClampNeg 0) (Int32.toNatClampNeg 0) (Int32.toNatClampNeg 8))) (v0 + 3) (va_cpy ((wrA (wrA h (v0 + 1) (va_cpy (h (v1 + 1)) (h (v0 + 1)) (Int32.toNatClampNeg 0) (Int32.toNatClampNeg 0) (Int32.toNatClampNeg 8))) (v0 + 2) (va_cpy ((wrA h (v0 + 1) (va_cpy (h (v1 + 1)) (h (v0 + 1)) (Int32.toNatClampNeg 0) (Int32.toNatClampNeg 0) (Int32.toNatClampNeg 8))) (v1 + 2)) ((wrA h (v0 + 1) (va_cpy (h (v1 + 1)) (h (v0 + 1)) (Int32.toNatClampNeg 0) (Int32.toNatClampNeg 0) (Int32.toNatClampNeg 8))) (v0 + 2)) (Int32.toNatClampNeg 0) (Int32.toNatClampNeg 0) (Int32.toNatClampNeg 8))) (v1 + 3)) ((wrA (wrA h (v0 + 1) (va_cpy (h (v1 + 1)) (h (v0 + 1)) (Int32.toNatClampNeg 0) (Int32.toNatClampNeg 0) (Int32.toNatClampNeg 8))) (v0 + 2) (va_cpy ((wrA h (v0 + 1) (va_cpy (h (v1 + 1)) (h (v0 + 1)) (Int32.toNatClampNeg 0) (Int32.toNatClampNeg 0) (Int32.toNatClampNeg 8))) (v1 + 2)) ((wrA h (v0 + 1) (va_cpy (h (v1 + 1)) (h (v0 + 1)) (Int32.toNatClampNeg 0) (Int32.toNatClampNeg 0) (Int32.toNatClampNeg 8))) (v0 + 2)) (Int32.toNatClampNeg 0) (Int32.toNatClampNeg 0) (Int32.toNatClampNeg 8))) (v0 + 3)) (Int32.toNatClampNeg 0) (Int32.toNatClampNeg 0) (Int32.toNatClampNeg 8))) (v0 + 4)) (Int32.toNatClampNeg 0) (Int32.toNatClampNeg 0) (Int32.toNatClampNeg 200))) v1 4)) v1 5))) : G X d 78 0 [some (.ref v0), some (.ref v1)] [] h := by
  refine g_aload_n d_78_0 rfl rfl ?_
  refine g_getf (ci := 5) (k := 0) d_78_1 wd_5 (Nat.le_of_ble_eq_true rfl) rfl o0 ?_
  refine g_iconst (v := 0) d_78_4 (by decide) ?_
  refine g_aload_n d_78_5 rfl rfl ?_
  refine g_getf (ci := 5) (k := 0) d_78_6 wd_5 (Nat.le_of_ble_eq_true rfl) rfl o1 ?_
  refine g_iconst (v := 0) d_78_9 (by decide) ?_
  refine g_bipush (v := 8) d_78_10 (by decide) ?_
  refine g_copy (n0 := 8) (n1 := 8) d_78_12 wd_223 ac_nat ac_st ac_in (Nat.le_of_ble_eq_true rfl) dd2 o3 o4 (by decide) (by decide) (by decide) (by decide) (by decide) ?_
  refine g_aload_n d_78_15 rfl rfl ?_
  refine g_getf (ci := 5) (k := 1) d_78_16 wd_6 (Nat.le_of_ble_eq_true rfl) rfl o0 ?_
  refine g_iconst (v := 0) d_78_19 (by decide) ?_
  refine g_aload_n d_78_20 rfl rfl ?_
  refine g_getf (ci := 5) (k := 1) d_78_21 wd_6 (Nat.le_of_ble_eq_true rfl) rfl o1 ?_
  refine g_iconst (v := 0) d_78_24 (by decide) ?_
  refine g_bipush (v := 8) d_78_25 (by decide) ?_
  refine g_copy (n0 := 8) (n1 := 8) d_78_27 wd_223 ac_nat ac_st ac_in (Nat.le_of_ble_eq_true rfl) dd2 o5 o6 (by decide) (by decide) (by decide) (by decide) (by decide) ?_
  refine g_aload_n d_78_30 rfl rfl ?_
  refine g_getf (ci := 5) (k := 2) d_78_31 wd_7 (Nat.le_of_ble_eq_true rfl) rfl o0 ?_
  refine g_iconst (v := 0) d_78_34 (by decide) ?_
  refine g_aload_n d_78_35 rfl rfl ?_
  refine g_getf (ci := 5) (k := 2) d_78_36 wd_7 (Nat.le_of_ble_eq_true rfl) rfl o1 ?_
  refine g_iconst (v := 0) d_78_39 (by decide) ?_
  refine g_bipush (v := 8) d_78_40 (by decide) ?_
  refine g_copy (n0 := 8) (n1 := 8) d_78_42 wd_223 ac_nat ac_st ac_in (Nat.le_of_ble_eq_true rfl) dd2 o7 o8 (by decide) (by decide) (by decide) (by decide) (by decide) ?_
  refine g_aload_n d_78_45 rfl rfl ?_
  refine g_getf (ci := 5) (k := 3) d_78_46 wd_8 (Nat.le_of_ble_eq_true rfl) rfl o0 ?_
  refine g_iconst (v := 0) d_78_49 (by decide) ?_
  refine g_aload_n d_78_50 rfl rfl ?_
  refine g_getf (ci := 5) (k := 3) d_78_51 wd_8 (Nat.le_of_ble_eq_true rfl) rfl o1 ?_
  refine g_iconst (v := 0) d_78_54 (by decide) ?_
  refine g_sipush (v := 200) d_78_55 (by decide) ?_
  refine g_copy (n0 := 200) (n1 := 200) d_78_58 wd_223 ac_nat ac_st ac_in (Nat.le_of_ble_eq_true rfl) dd2 o9 o10 (by decide) (by decide) (by decide) (by decide) (by decide) ?_
  refine g_aload_n d_78_61 rfl rfl ?_
  refine g_aload_n d_78_62 rfl rfl ?_
  refine g_getf (ci := 5) (k := 4) d_78_63 wd_9 (Nat.le_of_ble_eq_true rfl) rfl o0 ?_
  refine g_putf (ci := 5) (k := 4) d_78_66 wd_9 (Nat.le_of_ble_eq_true rfl) (Nat.le_of_ble_eq_true rfl) rfl rfl (Or.inl ⟨rfl, rfl⟩) o1 ?_
  refine g_aload_n d_78_69 rfl rfl ?_
  refine g_aload_n d_78_70 rfl rfl ?_
  refine g_getf (ci := 5) (k := 5) d_78_71 wd_10 (Nat.le_of_ble_eq_true rfl) rfl o0 ?_
  refine g_putf (ci := 5) (k := 5) d_78_74 wd_10 (Nat.le_of_ble_eq_true rfl) (Nat.le_of_ble_eq_true rfl) rfl rfl (Or.inl ⟨rfl, rfl⟩) o1 ?_
  exact g_retv d_78_77 rfl hq

