/-! 86 PlayedTruth$Ahead.worthOfRest(I)I -/
theorem k_86_0 {X : GX} {d : Nat} {h : Hp} {v1 : Int32} {d' : Nat} {Q' : Nat → Hp → Prop} (hdd : d' < d) (hC : CR d' 87 [.ref 31] h Q') (kk : ∀ x h', Q' x h' → G X d 86 4 [some (.ref 31), some (.int v1), none, none] [.ref x] h') : G X d 86 0 [some (.ref 31), some (.int v1), none, none] [] h := by
  refine g_aload_n d_86_0 rfl rfl ?_
  exact g_callVR (mj := 87) 1 [] [] d_86_1 wd_235 mo_87 mc_87 mv_87 rfl rfl rfl (Nat.le_of_ble_eq_true rfl) rfl hdd hC kk

theorem k_86_4 {X : GX} {d : Nat} {h : Hp} {v1 : Int32} {s0 : Nat} (kk : G X d 86 7 [some (.ref 31), some (.int v1), some (.ref s0), some (.int 0)] [] h) : G X d 86 4 [some (.ref 31), some (.int v1), none, none] [.ref s0] h := by
  refine g_astore_n d_86_4 rfl (Nat.le_of_ble_eq_true rfl) rfl ?_
  refine g_iconst (v := 0) d_86_5 (by decide) ?_
  refine g_istore_n d_86_6 rfl (Nat.le_of_ble_eq_true rfl) rfl ?_
  exact kk

theorem k_86_7 {X : GX} {d : Nat} {h : Hp} {v1 : Int32} {v2 : Nat} {v3 : Int32} (kt : v1 ≤ v3 → G X d 86 46 [some (.ref 31), none, some (.ref v2), none] [] h) (kf : ¬ v1 ≤ v3 → G X d 86 12 [some (.ref 31), some (.int v1), some (.ref v2), some (.int v3)] [] h) : G X d 86 7 [some (.ref 31), some (.int v1), some (.ref v2), some (.int v3)] [] h := by
  refine g_iload_n d_86_7 rfl rfl ?_
  refine g_iload_n d_86_8 rfl rfl ?_
  exact g_icmp_ge (tgt := 46) d_86_9 (by decide) (fun q => g_mask [true, false, true, false] (kt q)) kf

theorem k_86_12 {X : GX} {d : Nat} {h : Hp} {v1 : Int32} {v2 : Nat} {v3 : Int32} {d' : Nat} {Q' : Int32 → Hp → Prop} (hdd : d' < d) (hC : CI d' 38 [.ref 1, .ref v2] h Q') (kk : ∀ x h', Q' x h' → G X d 86 20 [some (.ref 31), some (.int v1), some (.ref v2), some (.int v3)] [.int x] h') : G X d 86 12 [some (.ref 31), some (.int v1), some (.ref v2), some (.int v3)] [] h := by
  refine g_aload_n d_86_12 rfl rfl ?_
  refine g_getf (ci := 1) (k := 0) d_86_13 wd_88 (Nat.le_of_ble_eq_true rfl) rfl rfl ?_
  refine g_aload_n d_86_16 rfl rfl ?_
  exact g_callVI (mj := 38) 6 [.ref v2] [] d_86_17 wd_238 mo_38 mc_38 mv_38 rfl rfl rfl (Nat.le_of_ble_eq_true rfl) rfl hdd hC kk

theorem k_86_20 {X : GX} {d : Nat} {h : Hp} {v1 : Int32} {v2 : Nat} {v3 : Int32} {s0 : Int32} (kt : ¬ s0 = 0 → G X d 86 46 [some (.ref 31), none, some (.ref v2), none] [] h) (kf : s0 = 0 → G X d 86 23 [some (.ref 31), some (.int v1), some (.ref v2), some (.int v3)] [] h) : G X d 86 20 [some (.ref 31), some (.int v1), some (.ref v2), some (.int v3)] [.int s0] h := by
  exact g_if_ne (tgt := 46) d_86_20 (by decide) (fun q => g_mask [true, false, true, false] (kt q)) kf

theorem k_86_23 {X : GX} {d : Nat} {h : Hp} {v1 : Int32} {v2 : Nat} {v3 : Int32} {d' : Nat} {Q' : Int32 → Hp → Prop} (hdd : d' < d) (hC : CI d' 80 [.ref 1, .ref v2] h Q') (kk : ∀ x h', Q' x h' → G X d 86 36 [some (.ref 31), some (.int v1), some (.ref v2), some (.int v3)] [.int x, .ref v2, .ref 1] h') : G X d 86 23 [some (.ref 31), some (.int v1), some (.ref v2), some (.int v3)] [] h := by
  refine g_aload_n d_86_23 rfl rfl ?_
  refine g_getf (ci := 1) (k := 0) d_86_24 wd_88 (Nat.le_of_ble_eq_true rfl) rfl rfl ?_
  refine g_aload_n d_86_27 rfl rfl ?_
  refine g_aload_n d_86_28 rfl rfl ?_
  refine g_getf (ci := 1) (k := 0) d_86_29 wd_88 (Nat.le_of_ble_eq_true rfl) rfl rfl ?_
  refine g_aload_n d_86_32 rfl rfl ?_
  exact g_callVI (mj := 80) 6 [.ref v2] [.ref v2, .ref 1] d_86_33 wd_239 mo_80 mc_80 mv_80 rfl rfl rfl (Nat.le_of_ble_eq_true rfl) rfl hdd hC kk

theorem k_86_36 {X : GX} {d : Nat} {h : Hp} {v1 : Int32} {v2 : Nat} {v3 : Int32} {s0 : Int32} {s1 : Nat} {s2 : Nat} {d' : Nat} {Q' : Int32 → Hp → Prop} (o0 : sh s2 = (1, 6)) (hdd : d' < d) (hC : CI d' 81 [.ref s2, .ref s1, .int s0] h Q') (kk : ∀ x h', Q' x h' → G X d 86 39 [some (.ref 31), some (.int v1), some (.ref v2), some (.int v3)] [.int x] h') : G X d 86 36 [some (.ref 31), some (.int v1), some (.ref v2), some (.int v3)] [.int s0, .ref s1, .ref s2] h := by
  exact g_callVI (mj := 81) 6 [.ref s1, .int s0] [] d_86_36 wd_240 mo_81 mc_81 mv_81 rfl rfl rfl (Nat.le_of_ble_eq_true rfl) o0 hdd hC kk

theorem k_86_39 {X : GX} {d : Nat} {h : Hp} {v1 : Int32} {v2 : Nat} {v3 : Int32} {s0 : Int32} (kk : G X d 86 7 [some (.ref 31), some (.int v1), some (.ref v2), some (.int (v3 + 1))] [] h) : G X d 86 39 [some (.ref 31), some (.int v1), some (.ref v2), some (.int v3)] [.int s0] h := by
  refine g_pop d_86_39 rfl ?_
  refine g_iinc (w := 1) d_86_40 rfl (by decide) (Nat.le_of_ble_eq_true rfl) rfl ?_
  refine g_goto (tgt := 7) d_86_43 (by decide) ?_
  exact kk

theorem k_86_46 {X : GX} {d : Nat} {h : Hp} {v2 : Nat} (o0 : sh v2 = (1, 3)) (hq : RtX X (some (.int ((h v2 4) - (h 13 4)))) h) : G X d 86 46 [some (.ref 31), none, some (.ref v2), none] [] h := by
  refine g_aload_n d_86_46 rfl rfl ?_
  refine g_getf (ci := 3) (k := 4) d_86_47 wd_49 (Nat.le_of_ble_eq_true rfl) rfl o0 ?_
  refine g_aload_n d_86_50 rfl rfl ?_
  refine g_getf (ci := 1) (k := 1) d_86_51 wd_89 (Nat.le_of_ble_eq_true rfl) rfl rfl ?_
  refine g_getf (ci := 3) (k := 4) d_86_54 wd_49 (Nat.le_of_ble_eq_true rfl) rfl rfl ?_
  refine g_isub d_86_57 ?_
  exact g_reti d_86_58 rfl hq

/-! 87 PlayedTruth$Ahead.fromNow()LPlayedTruth$Moment; -/
theorem k_87_0 {X : GX} {d : Nat} {h : Hp} {d' : Nat} {Q' : Hp → Prop} (b0 : vp_in 0 5) (o1 : sh (35 + 3 * Int32.toNatClampNeg 0) = (1, 3)) (hdd : d' < d) (hC : CV d' 88 [.ref (35 + 3 * Int32.toNatClampNeg 0), .ref 13] h Q') (kk : ∀ h', Q' h' → G X d 87 13 [some (.ref 31)] [] h') : G X d 87 0 [some (.ref 31)] [] h := by
  refine g_aload_n d_87_0 rfl rfl ?_
  refine g_getf (ci := 1) (k := 2) d_87_1 wd_90 (Nat.le_of_ble_eq_true rfl) rfl rfl ?_
  refine g_iconst (v := 0) d_87_4 (by decide) ?_
  refine g_aald (tt := 0) d_87_5 (by decide) rfl b0 ?_
  refine g_aload_n d_87_6 rfl rfl ?_
  refine g_getf (ci := 1) (k := 1) d_87_7 wd_89 (Nat.le_of_ble_eq_true rfl) rfl rfl ?_
  exact g_callVV (mj := 88) 3 [.ref 13] [] d_87_10 wd_236 mo_88 mc_88 mv_88 rfl rfl rfl (Nat.le_of_ble_eq_true rfl) o1 hdd hC kk

theorem k_87_13 {X : GX} {d : Nat} {h : Hp} (b0 : vp_in 0 5) (hq : RtX X (some (.ref (35 + 3 * Int32.toNatClampNeg 0))) h) : G X d 87 13 [some (.ref 31)] [] h := by
  refine g_aload_n d_87_13 rfl rfl ?_
  refine g_getf (ci := 1) (k := 2) d_87_14 wd_90 (Nat.le_of_ble_eq_true rfl) rfl rfl ?_
  refine g_iconst (v := 0) d_87_17 (by decide) ?_
  refine g_aald (tt := 0) d_87_18 (by decide) rfl b0 ?_
  exact g_reta d_87_19 rfl hq

/-! 90 PlayedTruth$Ahead.settlingNight(I)I -/
theorem k_90_0 {X : GX} {d : Nat} {h : Hp} {v1 : Int32} {d' : Nat} {Q' : Nat → Hp → Prop} (hdd : d' < d) (hC : CR d' 87 [.ref 31] h Q') (kk : ∀ x h', Q' x h' → G X d 90 4 [some (.ref 31), some (.int v1), none, none] [.ref x] h') : G X d 90 0 [some (.ref 31), some (.int v1), none, none] [] h := by
  refine g_aload_n d_90_0 rfl rfl ?_
  exact g_callVR (mj := 87) 1 [] [] d_90_1 wd_235 mo_87 mc_87 mv_87 rfl rfl rfl (Nat.le_of_ble_eq_true rfl) rfl hdd hC kk

theorem k_90_4 {X : GX} {d : Nat} {h : Hp} {v1 : Int32} {s0 : Nat} {d' : Nat} {Q' : Int32 → Hp → Prop} (o0 : sh s0 = (1, 3)) (hdd : d' < d) (hC : CI d' 15 [.ref s0, .int v1] h Q') (kk : ∀ x h', Q' x h' → G X d 90 10 [some (.ref 31), some (.int v1), some (.ref s0), none] [.int x] h') : G X d 90 4 [some (.ref 31), some (.int v1), none, none] [.ref s0] h := by
  refine g_astore_n d_90_4 rfl (Nat.le_of_ble_eq_true rfl) rfl ?_
  refine g_aload_n d_90_5 rfl rfl ?_
  refine g_iload_n d_90_6 rfl rfl ?_
  exact g_callVI (mj := 15) 3 [.int v1] [] d_90_7 wd_243 mo_15 mc_15 mv_15 rfl rfl rfl (Nat.le_of_ble_eq_true rfl) o0 hdd hC kk

theorem k_90_10 {X : GX} {d : Nat} {h : Hp} {v1 : Int32} {v2 : Nat} {s0 : Int32} (kt : s0 = 0 → G X d 90 16 [some (.ref 31), some (.int v1), some (.ref v2), none] [] h) (kf : ¬ s0 = 0 → G X d 90 13 [none, none, none, none] [] h) : G X d 90 10 [some (.ref 31), some (.int v1), some (.ref v2), none] [.int s0] h := by
  exact g_if_eq (tgt := 16) d_90_10 (by decide) kt (fun q => g_mask [false, false, false, false] (kf q))

theorem k_90_13 {X : GX} {d : Nat} {h : Hp} (hq : RtX X (some (.int ((-3)))) h) : G X d 90 13 [none, none, none, none] [] h := by
  refine g_bipush (v := (-3)) d_90_13 (by decide) ?_
  exact g_reti d_90_15 rfl hq

theorem k_90_16 {X : GX} {d : Nat} {h : Hp} {v1 : Int32} {v2 : Nat} (kk : G X d 90 18 [some (.ref 31), some (.int v1), some (.ref v2), some (.int 0)] [] h) : G X d 90 16 [some (.ref 31), some (.int v1), some (.ref v2), none] [] h := by
  refine g_iconst (v := 0) d_90_16 (by decide) ?_
  refine g_istore_n d_90_17 rfl (Nat.le_of_ble_eq_true rfl) rfl ?_
  exact kk

theorem k_90_18 {X : GX} {d : Nat} {h : Hp} {v1 : Int32} {v2 : Nat} {v3 : Int32} (kt : 16 ≤ v3 → G X d 90 73 [none, none, none, none] [] h) (kf : ¬ 16 ≤ v3 → G X d 90 24 [some (.ref 31), some (.int v1), some (.ref v2), some (.int v3)] [] h) : G X d 90 18 [some (.ref 31), some (.int v1), some (.ref v2), some (.int v3)] [] h := by
  refine g_iload_n d_90_18 rfl rfl ?_
  refine g_bipush (v := 16) d_90_19 (by decide) ?_
  exact g_icmp_ge (tgt := 73) d_90_21 (by decide) (fun q => g_mask [false, false, false, false] (kt q)) kf

theorem k_90_24 {X : GX} {d : Nat} {h : Hp} {v1 : Int32} {v2 : Nat} {v3 : Int32} {d' : Nat} {Q' : Int32 → Hp → Prop} (hdd : d' < d) (hC : CI d' 38 [.ref 1, .ref v2] h Q') (kk : ∀ x h', Q' x h' → G X d 90 32 [some (.ref 31), some (.int v1), some (.ref v2), some (.int v3)] [.int x] h') : G X d 90 24 [some (.ref 31), some (.int v1), some (.ref v2), some (.int v3)] [] h := by
  refine g_aload_n d_90_24 rfl rfl ?_
  refine g_getf (ci := 1) (k := 0) d_90_25 wd_88 (Nat.le_of_ble_eq_true rfl) rfl rfl ?_
  refine g_aload_n d_90_28 rfl rfl ?_
  exact g_callVI (mj := 38) 6 [.ref v2] [] d_90_29 wd_238 mo_38 mc_38 mv_38 rfl rfl rfl (Nat.le_of_ble_eq_true rfl) rfl hdd hC kk

theorem k_90_32 {X : GX} {d : Nat} {h : Hp} {v1 : Int32} {v2 : Nat} {v3 : Int32} {s0 : Int32} (kt : ¬ s0 = 0 → G X d 90 73 [none, none, none, none] [] h) (kf : s0 = 0 → G X d 90 35 [some (.ref 31), some (.int v1), some (.ref v2), some (.int v3)] [] h) : G X d 90 32 [some (.ref 31), some (.int v1), some (.ref v2), some (.int v3)] [.int s0] h := by
  exact g_if_ne (tgt := 73) d_90_32 (by decide) (fun q => g_mask [false, false, false, false] (kt q)) kf

theorem k_90_35 {X : GX} {d : Nat} {h : Hp} {v1 : Int32} {v2 : Nat} {v3 : Int32} {d' : Nat} {Q' : Int32 → Hp → Prop} (hdd : d' < d) (hC : CI d' 80 [.ref 1, .ref v2] h Q') (kk : ∀ x h', Q' x h' → G X d 90 48 [some (.ref 31), some (.int v1), some (.ref v2), some (.int v3)] [.int x, .ref v2, .ref 1] h') : G X d 90 35 [some (.ref 31), some (.int v1), some (.ref v2), some (.int v3)] [] h := by
  refine g_aload_n d_90_35 rfl rfl ?_
  refine g_getf (ci := 1) (k := 0) d_90_36 wd_88 (Nat.le_of_ble_eq_true rfl) rfl rfl ?_
  refine g_aload_n d_90_39 rfl rfl ?_
  refine g_aload_n d_90_40 rfl rfl ?_
  refine g_getf (ci := 1) (k := 0) d_90_41 wd_88 (Nat.le_of_ble_eq_true rfl) rfl rfl ?_
  refine g_aload_n d_90_44 rfl rfl ?_
  exact g_callVI (mj := 80) 6 [.ref v2] [.ref v2, .ref 1] d_90_45 wd_239 mo_80 mc_80 mv_80 rfl rfl rfl (Nat.le_of_ble_eq_true rfl) rfl hdd hC kk

theorem k_90_48 {X : GX} {d : Nat} {h : Hp} {v1 : Int32} {v2 : Nat} {v3 : Int32} {s0 : Int32} {s1 : Nat} {s2 : Nat} {d' : Nat} {Q' : Int32 → Hp → Prop} (o0 : sh s2 = (1, 6)) (hdd : d' < d) (hC : CI d' 81 [.ref s2, .ref s1, .int s0] h Q') (kk : ∀ x h', Q' x h' → G X d 90 51 [some (.ref 31), some (.int v1), some (.ref v2), some (.int v3)] [.int x] h') : G X d 90 48 [some (.ref 31), some (.int v1), some (.ref v2), some (.int v3)] [.int s0, .ref s1, .ref s2] h := by
  exact g_callVI (mj := 81) 6 [.ref s1, .int s0] [] d_90_48 wd_240 mo_81 mc_81 mv_81 rfl rfl rfl (Nat.le_of_ble_eq_true rfl) o0 hdd hC kk

theorem k_90_51 {X : GX} {d : Nat} {h : Hp} {v1 : Int32} {v2 : Nat} {v3 : Int32} {s0 : Int32} {d' : Nat} {Q' : Int32 → Hp → Prop} (o0 : sh v2 = (1, 3)) (hdd : d' < d) (hC : CI d' 15 [.ref v2, .int v1] h Q') (kk : ∀ x h', Q' x h' → G X d 90 57 [some (.ref 31), some (.int v1), some (.ref v2), some (.int v3)] [.int x] h') : G X d 90 51 [some (.ref 31), some (.int v1), some (.ref v2), some (.int v3)] [.int s0] h := by
  refine g_pop d_90_51 rfl ?_
  refine g_aload_n d_90_52 rfl rfl ?_
  refine g_iload_n d_90_53 rfl rfl ?_
  exact g_callVI (mj := 15) 3 [.int v1] [] d_90_54 wd_243 mo_15 mc_15 mv_15 rfl rfl rfl (Nat.le_of_ble_eq_true rfl) o0 hdd hC kk

theorem k_90_57 {X : GX} {d : Nat} {h : Hp} {v1 : Int32} {v2 : Nat} {v3 : Int32} {s0 : Int32} (kt : s0 = 0 → G X d 90 67 [some (.ref 31), some (.int v1), some (.ref v2), some (.int v3)] [] h) (kf : ¬ s0 = 0 → G X d 90 60 [none, none, some (.ref v2), none] [] h) : G X d 90 57 [some (.ref 31), some (.int v1), some (.ref v2), some (.int v3)] [.int s0] h := by
  exact g_if_eq (tgt := 67) d_90_57 (by decide) kt (fun q => g_mask [false, false, true, false] (kf q))

theorem k_90_60 {X : GX} {d : Nat} {h : Hp} {v2 : Nat} (o0 : sh v2 = (1, 3)) (hq : RtX X (some (.int ((h v2 3) - 1))) h) : G X d 90 60 [none, none, some (.ref v2), none] [] h := by
  refine g_aload_n d_90_60 rfl rfl ?_
  refine g_getf (ci := 3) (k := 3) d_90_61 wd_46 (Nat.le_of_ble_eq_true rfl) rfl o0 ?_
  refine g_iconst (v := 1) d_90_64 (by decide) ?_
  refine g_isub d_90_65 ?_
  exact g_reti d_90_66 rfl hq

theorem k_90_67 {X : GX} {d : Nat} {h : Hp} {v1 : Int32} {v2 : Nat} {v3 : Int32} (kk : G X d 90 18 [some (.ref 31), some (.int v1), some (.ref v2), some (.int (v3 + 1))] [] h) : G X d 90 67 [some (.ref 31), some (.int v1), some (.ref v2), some (.int v3)] [] h := by
  refine g_iinc (w := 1) d_90_67 rfl (by decide) (Nat.le_of_ble_eq_true rfl) rfl ?_
  refine g_goto (tgt := 18) d_90_70 (by decide) ?_
  exact kk

theorem k_90_73 {X : GX} {d : Nat} {h : Hp} (hq : RtX X (some (.int ((-3)))) h) : G X d 90 73 [none, none, none, none] [] h := by
  refine g_bipush (v := (-3)) d_90_73 (by decide) ?_
  exact g_reti d_90_75 rfl hq

/-! 95 PlayedTruth$Ahead.trueNight(I)I -/
theorem k_95_0 {X : GX} {d : Nat} {h : Hp} {v1 : Int32} {d' : Nat} {Q' : Nat → Hp → Prop} (hdd : d' < d) (hC : CR d' 87 [.ref 31] h Q') (kk : ∀ x h', Q' x h' → G X d 95 4 [some (.ref 31), some (.int v1), none, none] [.ref x] h') : G X d 95 0 [some (.ref 31), some (.int v1), none, none] [] h := by
  refine g_aload_n d_95_0 rfl rfl ?_
  exact g_callVR (mj := 87) 1 [] [] d_95_1 wd_235 mo_87 mc_87 mv_87 rfl rfl rfl (Nat.le_of_ble_eq_true rfl) rfl hdd hC kk

theorem k_95_4 {X : GX} {d : Nat} {h : Hp} {v1 : Int32} {s0 : Nat} (kk : G X d 95 7 [some (.ref 31), some (.int v1), some (.ref s0), some (.int 0)] [] h) : G X d 95 4 [some (.ref 31), some (.int v1), none, none] [.ref s0] h := by
  refine g_astore_n d_95_4 rfl (Nat.le_of_ble_eq_true rfl) rfl ?_
  refine g_iconst (v := 0) d_95_5 (by decide) ?_
  refine g_istore_n d_95_6 rfl (Nat.le_of_ble_eq_true rfl) rfl ?_
  exact kk

theorem k_95_7 {X : GX} {d : Nat} {h : Hp} {v1 : Int32} {v2 : Nat} {v3 : Int32} (kt : 16 ≤ v3 → G X d 95 59 [some (.ref 31), some (.int v1), some (.ref v2), none] [] h) (kf : ¬ 16 ≤ v3 → G X d 95 13 [some (.ref 31), some (.int v1), some (.ref v2), some (.int v3)] [] h) : G X d 95 7 [some (.ref 31), some (.int v1), some (.ref v2), some (.int v3)] [] h := by
  refine g_iload_n d_95_7 rfl rfl ?_
  refine g_bipush (v := 16) d_95_8 (by decide) ?_
  exact g_icmp_ge (tgt := 59) d_95_10 (by decide) (fun q => g_mask [true, true, true, false] (kt q)) kf

theorem k_95_13 {X : GX} {d : Nat} {h : Hp} {v1 : Int32} {v2 : Nat} {v3 : Int32} {d' : Nat} {Q' : Int32 → Hp → Prop} (hdd : d' < d) (hC : CI d' 40 [.ref 1, .ref v2] h Q') (kk : ∀ x h', Q' x h' → G X d 95 21 [some (.ref 31), some (.int v1), some (.ref v2), some (.int v3)] [.int x] h') : G X d 95 13 [some (.ref 31), some (.int v1), some (.ref v2), some (.int v3)] [] h := by
  refine g_aload_n d_95_13 rfl rfl ?_
  refine g_getf (ci := 1) (k := 0) d_95_14 wd_88 (Nat.le_of_ble_eq_true rfl) rfl rfl ?_
  refine g_aload_n d_95_17 rfl rfl ?_
  exact g_callVI (mj := 40) 6 [.ref v2] [] d_95_18 wd_249 mo_40 mc_40 mv_40 rfl rfl rfl (Nat.le_of_ble_eq_true rfl) rfl hdd hC kk

theorem k_95_21 {X : GX} {d : Nat} {h : Hp} {v1 : Int32} {v2 : Nat} {v3 : Int32} {s0 : Int32} (kt : v1 ≤ s0 → G X d 95 59 [some (.ref 31), some (.int v1), some (.ref v2), none] [] h) (kf : ¬ v1 ≤ s0 → G X d 95 25 [some (.ref 31), some (.int v1), some (.ref v2), some (.int v3)] [] h) : G X d 95 21 [some (.ref 31), some (.int v1), some (.ref v2), some (.int v3)] [.int s0] h := by
  refine g_iload_n d_95_21 rfl rfl ?_
  exact g_icmp_ge (tgt := 59) d_95_22 (by decide) (fun q => g_mask [true, true, true, false] (kt q)) kf

theorem k_95_25 {X : GX} {d : Nat} {h : Hp} {v1 : Int32} {v2 : Nat} {v3 : Int32} {d' : Nat} {Q' : Int32 → Hp → Prop} (hdd : d' < d) (hC : CI d' 38 [.ref 1, .ref v2] h Q') (kk : ∀ x h', Q' x h' → G X d 95 33 [some (.ref 31), some (.int v1), some (.ref v2), some (.int v3)] [.int x] h') : G X d 95 25 [some (.ref 31), some (.int v1), some (.ref v2), some (.int v3)] [] h := by
  refine g_aload_n d_95_25 rfl rfl ?_
  refine g_getf (ci := 1) (k := 0) d_95_26 wd_88 (Nat.le_of_ble_eq_true rfl) rfl rfl ?_
  refine g_aload_n d_95_29 rfl rfl ?_
  exact g_callVI (mj := 38) 6 [.ref v2] [] d_95_30 wd_238 mo_38 mc_38 mv_38 rfl rfl rfl (Nat.le_of_ble_eq_true rfl) rfl hdd hC kk

theorem k_95_33 {X : GX} {d : Nat} {h : Hp} {v1 : Int32} {v2 : Nat} {v3 : Int32} {s0 : Int32} (kt : ¬ s0 = 0 → G X d 95 59 [some (.ref 31), some (.int v1), some (.ref v2), none] [] h) (kf : s0 = 0 → G X d 95 36 [some (.ref 31), some (.int v1), some (.ref v2), some (.int v3)] [] h) : G X d 95 33 [some (.ref 31), some (.int v1), some (.ref v2), some (.int v3)] [.int s0] h := by
  exact g_if_ne (tgt := 59) d_95_33 (by decide) (fun q => g_mask [true, true, true, false] (kt q)) kf

theorem k_95_36 {X : GX} {d : Nat} {h : Hp} {v1 : Int32} {v2 : Nat} {v3 : Int32} {d' : Nat} {Q' : Int32 → Hp → Prop} (hdd : d' < d) (hC : CI d' 80 [.ref 1, .ref v2] h Q') (kk : ∀ x h', Q' x h' → G X d 95 49 [some (.ref 31), some (.int v1), some (.ref v2), some (.int v3)] [.int x, .ref v2, .ref 1] h') : G X d 95 36 [some (.ref 31), some (.int v1), some (.ref v2), some (.int v3)] [] h := by
  refine g_aload_n d_95_36 rfl rfl ?_
  refine g_getf (ci := 1) (k := 0) d_95_37 wd_88 (Nat.le_of_ble_eq_true rfl) rfl rfl ?_
  refine g_aload_n d_95_40 rfl rfl ?_
  refine g_aload_n d_95_41 rfl rfl ?_
  refine g_getf (ci := 1) (k := 0) d_95_42 wd_88 (Nat.le_of_ble_eq_true rfl) rfl rfl ?_
  refine g_aload_n d_95_45 rfl rfl ?_
  exact g_callVI (mj := 80) 6 [.ref v2] [.ref v2, .ref 1] d_95_46 wd_239 mo_80 mc_80 mv_80 rfl rfl rfl (Nat.le_of_ble_eq_true rfl) rfl hdd hC kk

theorem k_95_49 {X : GX} {d : Nat} {h : Hp} {v1 : Int32} {v2 : Nat} {v3 : Int32} {s0 : Int32} {s1 : Nat} {s2 : Nat} {d' : Nat} {Q' : Int32 → Hp → Prop} (o0 : sh s2 = (1, 6)) (hdd : d' < d) (hC : CI d' 81 [.ref s2, .ref s1, .int s0] h Q') (kk : ∀ x h', Q' x h' → G X d 95 52 [some (.ref 31), some (.int v1), some (.ref v2), some (.int v3)] [.int x] h') : G X d 95 49 [some (.ref 31), some (.int v1), some (.ref v2), some (.int v3)] [.int s0, .ref s1, .ref s2] h := by
  exact g_callVI (mj := 81) 6 [.ref s1, .int s0] [] d_95_49 wd_240 mo_81 mc_81 mv_81 rfl rfl rfl (Nat.le_of_ble_eq_true rfl) o0 hdd hC kk

theorem k_95_52 {X : GX} {d : Nat} {h : Hp} {v1 : Int32} {v2 : Nat} {v3 : Int32} {s0 : Int32} (kk : G X d 95 7 [some (.ref 31), some (.int v1), some (.ref v2), some (.int (v3 + 1))] [] h) : G X d 95 52 [some (.ref 31), some (.int v1), some (.ref v2), some (.int v3)] [.int s0] h := by
  refine g_pop d_95_52 rfl ?_
  refine g_iinc (w := 1) d_95_53 rfl (by decide) (Nat.le_of_ble_eq_true rfl) rfl ?_
  refine g_goto (tgt := 7) d_95_56 (by decide) ?_
  exact kk

theorem k_95_59 {X : GX} {d : Nat} {h : Hp} {v1 : Int32} {v2 : Nat} {d' : Nat} {Q' : Int32 → Hp → Prop} (hdd : d' < d) (hC : CI d' 40 [.ref 1, .ref v2] h Q') (kk : ∀ x h', Q' x h' → G X d 95 67 [none, some (.int v1), some (.ref v2), none] [.int x] h') : G X d 95 59 [some (.ref 31), some (.int v1), some (.ref v2), none] [] h := by
  refine g_aload_n d_95_59 rfl rfl ?_
  refine g_getf (ci := 1) (k := 0) d_95_60 wd_88 (Nat.le_of_ble_eq_true rfl) rfl rfl ?_
  refine g_aload_n d_95_63 rfl rfl ?_
  exact g_callVI (mj := 40) 6 [.ref v2] [] d_95_64 wd_249 mo_40 mc_40 mv_40 rfl rfl rfl (Nat.le_of_ble_eq_true rfl) rfl hdd hC (fun x h' q => g_mask [false, true, true, false] (kk x h' q))

theorem k_95_67 {X : GX} {d : Nat} {h : Hp} {v1 : Int32} {v2 : Nat} {s0 : Int32} (kt : s0 < v1 → G X d 95 78 [none, none, none, none] [] h) (kf : ¬ s0 < v1 → G X d 95 71 [none, none, some (.ref v2), none] [] h) : G X d 95 67 [none, some (.int v1), some (.ref v2), none] [.int s0] h := by
  refine g_iload_n d_95_67 rfl rfl ?_
  exact g_icmp_lt (tgt := 78) d_95_68 (by decide) (fun q => g_mask [false, false, false, false] (kt q)) (fun q => g_mask [false, false, true, false] (kf q))

theorem k_95_71 {X : GX} {d : Nat} {h : Hp} {v2 : Nat} (o0 : sh v2 = (1, 3)) (hq : RtX X (some (.int (h v2 3))) h) : G X d 95 71 [none, none, some (.ref v2), none] [] h := by
  refine g_aload_n d_95_71 rfl rfl ?_
  refine g_getf (ci := 3) (k := 3) d_95_72 wd_46 (Nat.le_of_ble_eq_true rfl) rfl o0 ?_
  refine g_goto (tgt := 80) d_95_75 (by decide) ?_
  exact g_reti d_95_80 rfl hq

theorem k_95_78 {X : GX} {d : Nat} {h : Hp} (hq : RtX X (some (.int ((-3)))) h) : G X d 95 78 [none, none, none, none] [] h := by
  refine g_bipush (v := (-3)) d_95_78 (by decide) ?_
  exact g_reti d_95_80 rfl hq

/-! 109 PlayedTruth$Ahead.weighPlans(II)V -/
theorem k_109_0 {X : GX} {d : Nat} {h : Hp} {v1 : Int32} {v2 : Int32} {d' : Nat} {Q' : Int32 → Hp → Prop} (hdd : d' < d) (hC : CI d' 110 [.ref 31, .int v1] h Q') (kk : ∀ x h', Q' x h' → G X d 109 6 [some (.ref 31), none, some (.int v2)] [.int x, .ref 31] h') : G X d 109 0 [some (.ref 31), some (.int v1), some (.int v2)] [] h := by
  refine g_aload_n d_109_0 rfl rfl ?_
  refine g_aload_n d_109_1 rfl rfl ?_
  refine g_iload_n d_109_2 rfl rfl ?_
  exact g_callVI (mj := 110) 1 [.int v1] [.ref 31] d_109_3 wd_267 mo_110 mc_110 mv_110 rfl rfl rfl (Nat.le_of_ble_eq_true rfl) rfl hdd hC (fun x h' q => g_mask [true, false, true] (kk x h' q))

theorem k_109_6 {X : GX} {d : Nat} {h : Hp} {v2 : Int32} {s0 : Int32} {s1 : Nat} {d' : Nat} {Q' : Nat → Hp → Prop} (o0 : sh s1 = (1, 1)) (hdd : d' < d) (hC : CR d' 87 [.ref 31] (wr (wr (wr (wr (wr (wr h s1 5 s0) 31 4 v2) 31 6 ((-1))) 31 7 0) 31 9 ((-3))) 31 10 0) Q') (kk : ∀ x h', Q' x h' → G X d 109 39 [some (.ref 31), none, none] [.ref x] h') : G X d 109 6 [some (.ref 31), none, some (.int v2)] [.int s0, .ref s1] h := by
  refine g_putf (ci := 1) (k := 5) d_109_6 wd_93 (Nat.le_of_ble_eq_true rfl) (Nat.le_of_ble_eq_true rfl) rfl rfl (Or.inl ⟨rfl, rfl⟩) o0 ?_
  refine g_aload_n d_109_9 rfl rfl ?_
  refine g_iload_n d_109_10 rfl rfl ?_
  refine g_putf (ci := 1) (k := 4) d_109_11 wd_92 (Nat.le_of_ble_eq_true rfl) (Nat.le_of_ble_eq_true rfl) rfl rfl (Or.inl ⟨rfl, rfl⟩) rfl ?_
  refine g_aload_n d_109_14 rfl rfl ?_
  refine g_iconst (v := (-1)) d_109_15 (by decide) ?_
  refine g_putf (ci := 1) (k := 6) d_109_16 wd_95 (Nat.le_of_ble_eq_true rfl) (Nat.le_of_ble_eq_true rfl) rfl rfl (Or.inl ⟨rfl, rfl⟩) rfl ?_
  refine g_aload_n d_109_19 rfl rfl ?_
  refine g_iconst (v := 0) d_109_20 (by decide) ?_
  refine g_putf (ci := 1) (k := 7) d_109_21 wd_97 (Nat.le_of_ble_eq_true rfl) (Nat.le_of_ble_eq_true rfl) rfl rfl (Or.inl ⟨rfl, rfl⟩) rfl ?_
  refine g_aload_n d_109_24 rfl rfl ?_
  refine g_bipush (v := (-3)) d_109_25 (by decide) ?_
  refine g_putf (ci := 1) (k := 9) d_109_27 wd_101 (Nat.le_of_ble_eq_true rfl) (Nat.le_of_ble_eq_true rfl) rfl rfl (Or.inl ⟨rfl, rfl⟩) rfl ?_
  refine g_aload_n d_109_30 rfl rfl ?_
  refine g_iconst (v := 0) d_109_31 (by decide) ?_
  refine g_putf (ci := 1) (k := 10) d_109_32 wd_103 (Nat.le_of_ble_eq_true rfl) (Nat.le_of_ble_eq_true rfl) rfl rfl (Or.inl ⟨rfl, rfl⟩) rfl ?_
  refine g_aload_n d_109_35 rfl rfl ?_
  exact g_callVR (mj := 87) 1 [] [] d_109_36 wd_235 mo_87 mc_87 mv_87 rfl rfl rfl (Nat.le_of_ble_eq_true rfl) rfl hdd hC (fun x h' q => g_mask [true, false, false] (kk x h' q))

theorem k_109_39 {X : GX} {d : Nat} {h : Hp} {s0 : Nat} {d' : Nat} {Q' : Hp → Prop} (hdd : d' < d) (hC : CV d' 111 [.ref 31, .int 0, .int 0] h Q') (kk : ∀ h', Q' h' → G X d 109 46 [none, none, none] [] h') : G X d 109 39 [some (.ref 31), none, none] [.ref s0] h := by
  refine g_pop d_109_39 rfl ?_
  refine g_aload_n d_109_40 rfl rfl ?_
  refine g_iconst (v := 0) d_109_41 (by decide) ?_
  refine g_iconst (v := 0) d_109_42 (by decide) ?_
  exact g_callVV (mj := 111) 1 [.int 0, .int 0] [] d_109_43 wd_270 mo_111 mc_111 mv_111 rfl rfl rfl (Nat.le_of_ble_eq_true rfl) rfl hdd hC (fun h' q => g_mask [false, false, false] (kk h' q))

theorem k_109_46 {X : GX} {d : Nat} {h : Hp} (hq : RtX X none h) : G X d 109 46 [none, none, none] [] h := by
  exact g_retv d_109_46 rfl hq

/-! 110 PlayedTruth$Ahead.nightsOf(I)I -/
theorem k_110_0 {X : GX} {d : Nat} {h : Hp} {v1 : Int32} (dd0 : 0 < d) (hq : RtX X (some (.int (if 0 < (if ((h 1 8) - (h 13 3)) < v1 then ((h 1 8) - (h 13 3)) else v1) then (if ((h 1 8) - (h 13 3)) < v1 then ((h 1 8) - (h 13 3)) else v1) else 0))) h) : G X d 110 0 [some (.ref 31), some (.int v1)] [] h := by
  refine g_iconst (v := 0) d_110_0 (by decide) ?_
  refine g_iload_n d_110_1 rfl rfl ?_
  refine g_aload_n d_110_2 rfl rfl ?_
  refine g_getf (ci := 1) (k := 0) d_110_3 wd_88 (Nat.le_of_ble_eq_true rfl) rfl rfl ?_
  refine g_getf (ci := 6) (k := 8) d_110_6 wd_31 (Nat.le_of_ble_eq_true rfl) rfl rfl ?_
  refine g_aload_n d_110_9 rfl rfl ?_
  refine g_getf (ci := 1) (k := 1) d_110_10 wd_89 (Nat.le_of_ble_eq_true rfl) rfl rfl ?_
  refine g_getf (ci := 3) (k := 3) d_110_13 wd_46 (Nat.le_of_ble_eq_true rfl) rfl rfl ?_
  refine g_isub d_110_16 ?_
  refine g_mmin d_110_17 wd_268 (Nat.le_of_ble_eq_true rfl) dd0 ?_
  refine g_mmax d_110_20 wd_269 (Nat.le_of_ble_eq_true rfl) dd0 ?_
  exact g_reti d_110_23 rfl hq

/-! 111 PlayedTruth$Ahead.goThroughPlans(II)V -/
theorem k_111_0 {X : GX} {d : Nat} {h : Hp} {v1 : Int32} {v2 : Int32} (kt : (h 31 5) ≤ v1 → G X d 111 13 [some (.ref 31), some (.int v1), some (.int v2), none, none] [] h) (kf : ¬ (h 31 5) ≤ v1 → G X d 111 8 [some (.ref 31), some (.int v1), some (.int v2), none, none] [] h) : G X d 111 0 [some (.ref 31), some (.int v1), some (.int v2), none, none] [] h := by
  refine g_iload_n d_111_0 rfl rfl ?_
  refine g_aload_n d_111_1 rfl rfl ?_
  refine g_getf (ci := 1) (k := 5) d_111_2 wd_93 (Nat.le_of_ble_eq_true rfl) rfl rfl ?_
  exact g_icmp_ge (tgt := 13) d_111_5 (by decide) kt kf

theorem k_111_8 {X : GX} {d : Nat} {h : Hp} {v1 : Int32} {v2 : Int32} (kt : v1 < 4 → G X d 111 25 [some (.ref 31), some (.int v1), some (.int v2), none, none] [] h) (kf : ¬ v1 < 4 → G X d 111 13 [some (.ref 31), some (.int v1), some (.int v2), none, none] [] h) : G X d 111 8 [some (.ref 31), some (.int v1), some (.int v2), none, none] [] h := by
  refine g_iload_n d_111_8 rfl rfl ?_
  refine g_iconst (v := 4) d_111_9 (by decide) ?_
  exact g_icmp_lt (tgt := 25) d_111_10 (by decide) kt kf

theorem k_111_13 {X : GX} {d : Nat} {h : Hp} {v1 : Int32} {v2 : Int32} {d' : Nat} {Q' : Hp → Prop} (b0 : vp_in v1 5) (hdd : d' < d) (hC : CV d' 112 [.ref 31, .ref (35 + 3 * Int32.toNatClampNeg v1), .int v2] h Q') (kk : ∀ h', Q' h' → G X d 111 24 [none, none, none, none, none] [] h') : G X d 111 13 [some (.ref 31), some (.int v1), some (.int v2), none, none] [] h := by
  refine g_aload_n d_111_13 rfl rfl ?_
  refine g_aload_n d_111_14 rfl rfl ?_
  refine g_getf (ci := 1) (k := 2) d_111_15 wd_90 (Nat.le_of_ble_eq_true rfl) rfl rfl ?_
  refine g_iload_n d_111_18 rfl rfl ?_
  refine g_aald (tt := 0) d_111_19 (by decide) rfl b0 ?_
  refine g_iload_n d_111_20 rfl rfl ?_
  exact g_callVV (mj := 112) 1 [.ref (35 + 3 * Int32.toNatClampNeg v1), .int v2] [] d_111_21 wd_271 mo_112 mc_112 mv_112 rfl rfl rfl (Nat.le_of_ble_eq_true rfl) rfl hdd hC (fun h' q => g_mask [false, false, false, false, false] (kk h' q))

theorem k_111_24 {X : GX} {d : Nat} {h : Hp} (hq : RtX X none h) : G X d 111 24 [none, none, none, none, none] [] h := by
  exact g_retv d_111_24 rfl hq

theorem k_111_25 {X : GX} {d : Nat} {h : Hp} {v1 : Int32} {v2 : Int32} (b0 : vp_in (v1 + 1) 5) (kk : G X d 111 37 [some (.ref 31), some (.int v1), some (.int v2), some (.ref (35 + 3 * Int32.toNatClampNeg (v1 + 1))), some (.int 0)] [] h) : G X d 111 25 [some (.ref 31), some (.int v1), some (.int v2), none, none] [] h := by
  refine g_aload_n d_111_25 rfl rfl ?_
  refine g_getf (ci := 1) (k := 2) d_111_26 wd_90 (Nat.le_of_ble_eq_true rfl) rfl rfl ?_
  refine g_iload_n d_111_29 rfl rfl ?_
  refine g_iconst (v := 1) d_111_30 (by decide) ?_
  refine g_iadd d_111_31 ?_
  refine g_aald (tt := 0) d_111_32 (by decide) rfl b0 ?_
  refine g_astore_n d_111_33 rfl (Nat.le_of_ble_eq_true rfl) rfl ?_
  refine g_iconst (v := 0) d_111_34 (by decide) ?_
  refine g_istore d_111_35 (Nat.le_of_ble_eq_true rfl) rfl ?_
  exact kk

theorem k_111_37 {X : GX} {d : Nat} {h : Hp} {v1 : Int32} {v2 : Int32} {v3 : Nat} {v4 : Int32} (kt : (h 1 7) < v4 → G X d 111 103 [none, none, none, none, none] [] h) (kf : ¬ (h 1 7) < v4 → G X d 111 49 [some (.ref 31), some (.int v1), some (.int v2), some (.ref v3), some (.int v4)] [] h) : G X d 111 37 [some (.ref 31), some (.int v1), some (.int v2), some (.ref v3), some (.int v4)] [] h := by
  refine g_iload d_111_37 rfl ?_
  refine g_aload_n d_111_39 rfl rfl ?_
  refine g_getf (ci := 1) (k := 0) d_111_40 wd_88 (Nat.le_of_ble_eq_true rfl) rfl rfl ?_
  refine g_getf (ci := 6) (k := 7) d_111_43 wd_29 (Nat.le_of_ble_eq_true rfl) rfl rfl ?_
  exact g_icmp_gt (tgt := 103) d_111_46 (by decide) (fun q => g_mask [false, false, false, false, false] (kt q)) kf

theorem k_111_49 {X : GX} {d : Nat} {h : Hp} {v1 : Int32} {v2 : Int32} {v3 : Nat} {v4 : Int32} {d' : Nat} {Q' : Hp → Prop} (b0 : vp_in v1 5) (o1 : sh v3 = (1, 3)) (hdd : d' < d) (hC : CV d' 88 [.ref v3, .ref (35 + 3 * Int32.toNatClampNeg v1)] h Q') (kk : ∀ h', Q' h' → G X d 111 59 [some (.ref 31), some (.int v1), some (.int v2), some (.ref v3), some (.int v4)] [] h') : G X d 111 49 [some (.ref 31), some (.int v1), some (.int v2), some (.ref v3), some (.int v4)] [] h := by
  refine g_aload_n d_111_49 rfl rfl ?_
  refine g_aload_n d_111_50 rfl rfl ?_
  refine g_getf (ci := 1) (k := 2) d_111_51 wd_90 (Nat.le_of_ble_eq_true rfl) rfl rfl ?_
  refine g_iload_n d_111_54 rfl rfl ?_
  refine g_aald (tt := 0) d_111_55 (by decide) rfl b0 ?_
  exact g_callVV (mj := 88) 3 [.ref (35 + 3 * Int32.toNatClampNeg v1)] [] d_111_56 wd_236 mo_88 mc_88 mv_88 rfl rfl rfl (Nat.le_of_ble_eq_true rfl) o1 hdd hC kk

theorem k_111_59 {X : GX} {d : Nat} {h : Hp} {v1 : Int32} {v2 : Int32} {v3 : Nat} {v4 : Int32} {d' : Nat} {Q' : Int32 → Hp → Prop} (hdd : d' < d) (hC : CI d' 81 [.ref 1, .ref v3, .int v4] h Q') (kk : ∀ x h', Q' x h' → G X d 111 69 [some (.ref 31), some (.int v1), some (.int v2), some (.ref v3), some (.int v4)] [.int x] h') : G X d 111 59 [some (.ref 31), some (.int v1), some (.int v2), some (.ref v3), some (.int v4)] [] h := by
  refine g_aload_n d_111_59 rfl rfl ?_
  refine g_getf (ci := 1) (k := 0) d_111_60 wd_88 (Nat.le_of_ble_eq_true rfl) rfl rfl ?_
  refine g_aload_n d_111_63 rfl rfl ?_
  refine g_iload d_111_64 rfl ?_
  exact g_callVI (mj := 81) 6 [.ref v3, .int v4] [] d_111_66 wd_240 mo_81 mc_81 mv_81 rfl rfl rfl (Nat.le_of_ble_eq_true rfl) rfl hdd hC kk

theorem k_111_69 {X : GX} {d : Nat} {h : Hp} {v1 : Int32} {v2 : Int32} {v3 : Nat} {v4 : Int32} {s0 : Int32} (b0 : IA 33 v1) (kt : ¬ v4 = 0 → G X d 111 91 [some (.ref 31), some (.int v1), some (.int v2), some (.ref v3), some (.int v4)] [.int (v1 + 1), .ref 31] (wr h 33 (Int32.toNatClampNeg v1) v4)) (kf : v4 = 0 → G X d 111 87 [some (.ref 31), some (.int v1), some (.int v2), some (.ref v3), some (.int v4)] [.int (v1 + 1), .ref 31] (wr h 33 (Int32.toNatClampNeg v1) v4)) : G X d 111 69 [some (.ref 31), some (.int v1), some (.int v2), some (.ref v3), some (.int v4)] [.int s0] h := by
  refine g_pop d_111_69 rfl ?_
  refine g_aload_n d_111_70 rfl rfl ?_
  refine g_getf (ci := 1) (k := 3) d_111_71 wd_91 (Nat.le_of_ble_eq_true rfl) rfl rfl ?_
  refine g_iload_n d_111_74 rfl rfl ?_
  refine g_iload d_111_75 rfl ?_
  refine g_iast d_111_77 b0 ?_
  refine g_aload_n d_111_78 rfl rfl ?_
  refine g_iload_n d_111_79 rfl rfl ?_
  refine g_iconst (v := 1) d_111_80 (by decide) ?_
  refine g_iadd d_111_81 ?_
  refine g_iload d_111_82 rfl ?_
  exact g_if_ne (tgt := 91) d_111_84 (by decide) kt kf

theorem k_111_87 {X : GX} {d : Nat} {h : Hp} {v1 : Int32} {v2 : Int32} {v3 : Nat} {v4 : Int32} {s0 : Int32} {s1 : Nat} {d' : Nat} {Q' : Hp → Prop} (o0 : sh s1 = (1, 1)) (hdd : d' < d) (hC : CV d' 111 [.ref s1, .int s0, .int v2] h Q') (kk : ∀ h', Q' h' → G X d 111 97 [some (.ref 31), some (.int v1), some (.int v2), some (.ref v3), some (.int v4)] [] h') : G X d 111 87 [some (.ref 31), some (.int v1), some (.int v2), some (.ref v3), some (.int v4)] [.int s0, .ref s1] h := by
  refine g_iload_n d_111_87 rfl rfl ?_
  refine g_goto (tgt := 94) d_111_88 (by decide) ?_
  exact g_callVV (mj := 111) 1 [.int s0, .int v2] [] d_111_94 wd_270 mo_111 mc_111 mv_111 rfl rfl rfl (Nat.le_of_ble_eq_true rfl) o0 hdd hC kk

theorem k_111_91 {X : GX} {d : Nat} {h : Hp} {v1 : Int32} {v2 : Int32} {v3 : Nat} {v4 : Int32} {s0 : Int32} {s1 : Nat} {d' : Nat} {Q' : Hp → Prop} (o0 : sh s1 = (1, 1)) (hdd : d' < d) (hC : CV d' 111 [.ref s1, .int s0, .int (v2 + 1)] h Q') (kk : ∀ h', Q' h' → G X d 111 97 [some (.ref 31), some (.int v1), some (.int v2), some (.ref v3), some (.int v4)] [] h') : G X d 111 91 [some (.ref 31), some (.int v1), some (.int v2), some (.ref v3), some (.int v4)] [.int s0, .ref s1] h := by
  refine g_iload_n d_111_91 rfl rfl ?_
  refine g_iconst (v := 1) d_111_92 (by decide) ?_
  refine g_iadd d_111_93 ?_
  exact g_callVV (mj := 111) 1 [.int s0, .int (v2 + 1)] [] d_111_94 wd_270 mo_111 mc_111 mv_111 rfl rfl rfl (Nat.le_of_ble_eq_true rfl) o0 hdd hC kk

theorem k_111_97 {X : GX} {d : Nat} {h : Hp} {v1 : Int32} {v2 : Int32} {v3 : Nat} {v4 : Int32} (kk : G X d 111 37 [some (.ref 31), some (.int v1), some (.int v2), some (.ref v3), some (.int (v4 + 1))] [] h) : G X d 111 97 [some (.ref 31), some (.int v1), some (.int v2), some (.ref v3), some (.int v4)] [] h := by
  refine g_iinc (w := 1) d_111_97 rfl (by decide) (Nat.le_of_ble_eq_true rfl) rfl ?_
  refine g_goto (tgt := 37) d_111_100 (by decide) ?_
  exact kk

theorem k_111_103 {X : GX} {d : Nat} {h : Hp} (hq : RtX X none h) : G X d 111 103 [none, none, none, none, none] [] h := by
  exact g_retv d_111_103 rfl hq

/-! 112 PlayedTruth$Ahead.weighPlan(LPlayedTruth$Moment;I)V -/
theorem k_112_0 {X : GX} {d : Nat} {h : Hp} {v1 : Nat} {v2 : Int32} (o0 : sh v1 = (1, 3)) (kt : ((h v1 4) - (h 13 4)) ≤ (h 31 6) → G X d 112 45 [some (.ref 31), some (.ref v1), some (.int v2), some (.int ((h v1 4) - (h 13 4)))] [] h) (kf : ¬ ((h v1 4) - (h 13 4)) ≤ (h 31 6) → G X d 112 21 [some (.ref 31), some (.ref v1), some (.int v2), some (.int ((h v1 4) - (h 13 4)))] [] h) : G X d 112 0 [some (.ref 31), some (.ref v1), some (.int v2), none] [] h := by
  refine g_aload_n d_112_0 rfl rfl ?_
  refine g_getf (ci := 3) (k := 4) d_112_1 wd_49 (Nat.le_of_ble_eq_true rfl) rfl o0 ?_
  refine g_aload_n d_112_4 rfl rfl ?_
  refine g_getf (ci := 1) (k := 1) d_112_5 wd_89 (Nat.le_of_ble_eq_true rfl) rfl rfl ?_
  refine g_getf (ci := 3) (k := 4) d_112_8 wd_49 (Nat.le_of_ble_eq_true rfl) rfl rfl ?_
  refine g_isub d_112_11 ?_
  refine g_istore_n d_112_12 rfl (Nat.le_of_ble_eq_true rfl) rfl ?_
  refine g_iload_n d_112_13 rfl rfl ?_
  refine g_aload_n d_112_14 rfl rfl ?_
  refine g_getf (ci := 1) (k := 6) d_112_15 wd_95 (Nat.le_of_ble_eq_true rfl) rfl rfl ?_
  exact g_icmp_le (tgt := 45) d_112_18 (by decide) kt kf

theorem k_112_21 {X : GX} {d : Nat} {h : Hp} {v1 : Nat} {v2 : Int32} {v3 : Int32} (dd0 : 0 < d) (kt : ¬ v3 = ((wrA (wr (wr h 31 6 v3) 31 7 0) 34 (va_cpy ((wr (wr h 31 6 v3) 31 7 0) 33) ((wr (wr h 31 6 v3) 31 7 0) 34) (Int32.toNatClampNeg 0) (Int32.toNatClampNeg 0) (Int32.toNatClampNeg 4))) 31 6) → G X d 112 63 [some (.ref 31), some (.ref v1), some (.int v2), none] [] (wrA (wr (wr h 31 6 v3) 31 7 0) 34 (va_cpy ((wr (wr h 31 6 v3) 31 7 0) 33) ((wr (wr h 31 6 v3) 31 7 0) 34) (Int32.toNatClampNeg 0) (Int32.toNatClampNeg 0) (Int32.toNatClampNeg 4)))) (kf : v3 = ((wrA (wr (wr h 31 6 v3) 31 7 0) 34 (va_cpy ((wr (wr h 31 6 v3) 31 7 0) 33) ((wr (wr h 31 6 v3) 31 7 0) 34) (Int32.toNatClampNeg 0) (Int32.toNatClampNeg 0) (Int32.toNatClampNeg 4))) 31 6) → G X d 112 53 [some (.ref 31), some (.ref v1), some (.int v2), none] [] (wrA (wr (wr h 31 6 v3) 31 7 0) 34 (va_cpy ((wr (wr h 31 6 v3) 31 7 0) 33) ((wr (wr h 31 6 v3) 31 7 0) 34) (Int32.toNatClampNeg 0) (Int32.toNatClampNeg 0) (Int32.toNatClampNeg 4)))) : G X d 112 21 [some (.ref 31), some (.ref v1), some (.int v2), some (.int v3)] [] h := by
  refine g_aload_n d_112_21 rfl rfl ?_
  refine g_iload_n d_112_22 rfl rfl ?_
  refine g_putf (ci := 1) (k := 6) d_112_23 wd_95 (Nat.le_of_ble_eq_true rfl) (Nat.le_of_ble_eq_true rfl) rfl rfl (Or.inl ⟨rfl, rfl⟩) rfl ?_
  refine g_aload_n d_112_26 rfl rfl ?_
  refine g_iconst (v := 0) d_112_27 (by decide) ?_
  refine g_putf (ci := 1) (k := 7) d_112_28 wd_97 (Nat.le_of_ble_eq_true rfl) (Nat.le_of_ble_eq_true rfl) rfl rfl (Or.inl ⟨rfl, rfl⟩) rfl ?_
  refine g_aload_n d_112_31 rfl rfl ?_
  refine g_getf (ci := 1) (k := 3) d_112_32 wd_91 (Nat.le_of_ble_eq_true rfl) rfl rfl ?_
  refine g_iconst (v := 0) d_112_35 (by decide) ?_
  refine g_aload_n d_112_36 rfl rfl ?_
  refine g_getf (ci := 1) (k := 8) d_112_37 wd_99 (Nat.le_of_ble_eq_true rfl) rfl rfl ?_
  refine g_iconst (v := 0) d_112_40 (by decide) ?_
  refine g_iconst (v := 4) d_112_41 (by decide) ?_
  refine g_copy (n0 := 4) (n1 := 4) d_112_42 wd_272 ac_nat ac_st ac_in (Nat.le_of_ble_eq_true rfl) dd0 rfl rfl (by decide) (by decide) (by decide) (by decide) (by decide) ?_
  refine g_iload_n d_112_45 rfl rfl ?_
  refine g_aload_n d_112_46 rfl rfl ?_
  refine g_getf (ci := 1) (k := 6) d_112_47 wd_95 (Nat.le_of_ble_eq_true rfl) rfl rfl ?_
  exact g_icmp_ne (tgt := 63) d_112_50 (by decide) (fun q => g_mask [true, true, true, false] (kt q)) (fun q => g_mask [true, true, true, false] (kf q))

theorem k_112_45 {X : GX} {d : Nat} {h : Hp} {v1 : Nat} {v2 : Int32} {v3 : Int32} (kt : ¬ v3 = (h 31 6) → G X d 112 63 [some (.ref 31), some (.ref v1), some (.int v2), none] [] h) (kf : v3 = (h 31 6) → G X d 112 53 [some (.ref 31), some (.ref v1), some (.int v2), none] [] h) : G X d 112 45 [some (.ref 31), some (.ref v1), some (.int v2), some (.int v3)] [] h := by
  refine g_iload_n d_112_45 rfl rfl ?_
  refine g_aload_n d_112_46 rfl rfl ?_
  refine g_getf (ci := 1) (k := 6) d_112_47 wd_95 (Nat.le_of_ble_eq_true rfl) rfl rfl ?_
  exact g_icmp_ne (tgt := 63) d_112_50 (by decide) (fun q => g_mask [true, true, true, false] (kt q)) (fun q => g_mask [true, true, true, false] (kf q))

theorem k_112_53 {X : GX} {d : Nat} {h : Hp} {v1 : Nat} {v2 : Int32} (o0 : sh v1 = (1, 3)) (kt : ¬ (((wr h 31 7 ((h 31 7) + 1)) v1 2) &&& ((wr h 31 7 ((h 31 7) + 1)) 31 4)) = ((wr h 31 7 ((h 31 7) + 1)) 31 4) → G X d 112 101 [some (.ref 31), some (.ref v1), none, none] [] (wr h 31 7 ((h 31 7) + 1))) (kf : (((wr h 31 7 ((h 31 7) + 1)) v1 2) &&& ((wr h 31 7 ((h 31 7) + 1)) 31 4)) = ((wr h 31 7 ((h 31 7) + 1)) 31 4) → G X d 112 79 [some (.ref 31), some (.ref v1), some (.int v2), none] [] (wr h 31 7 ((h 31 7) + 1))) : G X d 112 53 [some (.ref 31), some (.ref v1), some (.int v2), none] [] h := by
  refine g_aload_n d_112_53 rfl rfl ?_
  refine g_dup d_112_54 rfl ?_
  refine g_getf (ci := 1) (k := 7) d_112_55 wd_97 (Nat.le_of_ble_eq_true rfl) rfl rfl ?_
  refine g_iconst (v := 1) d_112_58 (by decide) ?_
  refine g_iadd d_112_59 ?_
  refine g_putf (ci := 1) (k := 7) d_112_60 wd_97 (Nat.le_of_ble_eq_true rfl) (Nat.le_of_ble_eq_true rfl) rfl rfl (Or.inl ⟨rfl, rfl⟩) rfl ?_
  refine g_aload_n d_112_63 rfl rfl ?_
  refine g_getf (ci := 3) (k := 2) d_112_64 wd_42 (Nat.le_of_ble_eq_true rfl) rfl o0 ?_
  refine g_aload_n d_112_67 rfl rfl ?_
  refine g_getf (ci := 1) (k := 4) d_112_68 wd_92 (Nat.le_of_ble_eq_true rfl) rfl rfl ?_
  refine g_iand d_112_71 ?_
  refine g_aload_n d_112_72 rfl rfl ?_
  refine g_getf (ci := 1) (k := 4) d_112_73 wd_92 (Nat.le_of_ble_eq_true rfl) rfl rfl ?_
  exact g_icmp_ne (tgt := 101) d_112_76 (by decide) (fun q => g_mask [true, true, false, false] (kt q)) kf

theorem k_112_63 {X : GX} {d : Nat} {h : Hp} {v1 : Nat} {v2 : Int32} (o0 : sh v1 = (1, 3)) (kt : ¬ ((h v1 2) &&& (h 31 4)) = (h 31 4) → G X d 112 101 [some (.ref 31), some (.ref v1), none, none] [] h) (kf : ((h v1 2) &&& (h 31 4)) = (h 31 4) → G X d 112 79 [some (.ref 31), some (.ref v1), some (.int v2), none] [] h) : G X d 112 63 [some (.ref 31), some (.ref v1), some (.int v2), none] [] h := by
  refine g_aload_n d_112_63 rfl rfl ?_
  refine g_getf (ci := 3) (k := 2) d_112_64 wd_42 (Nat.le_of_ble_eq_true rfl) rfl o0 ?_
  refine g_aload_n d_112_67 rfl rfl ?_
  refine g_getf (ci := 1) (k := 4) d_112_68 wd_92 (Nat.le_of_ble_eq_true rfl) rfl rfl ?_
  refine g_iand d_112_71 ?_
  refine g_aload_n d_112_72 rfl rfl ?_
  refine g_getf (ci := 1) (k := 4) d_112_73 wd_92 (Nat.le_of_ble_eq_true rfl) rfl rfl ?_
  exact g_icmp_ne (tgt := 101) d_112_76 (by decide) (fun q => g_mask [true, true, false, false] (kt q)) kf

theorem k_112_79 {X : GX} {d : Nat} {h : Hp} {v1 : Nat} {v2 : Int32} (kt : (h 31 9) = ((-3)) → G X d 112 96 [some (.ref 31), some (.ref v1), some (.int v2), none] [] h) (kf : ¬ (h 31 9) = ((-3)) → G X d 112 88 [some (.ref 31), some (.ref v1), some (.int v2), none] [] h) : G X d 112 79 [some (.ref 31), some (.ref v1), some (.int v2), none] [] h := by
  refine g_aload_n d_112_79 rfl rfl ?_
  refine g_getf (ci := 1) (k := 9) d_112_80 wd_101 (Nat.le_of_ble_eq_true rfl) rfl rfl ?_
  refine g_bipush (v := (-3)) d_112_83 (by decide) ?_
  exact g_icmp_eq (tgt := 96) d_112_85 (by decide) kt kf

theorem k_112_88 {X : GX} {d : Nat} {h : Hp} {v1 : Nat} {v2 : Int32} (kt : (h 31 9) ≤ v2 → G X d 112 101 [some (.ref 31), some (.ref v1), none, none] [] h) (kf : ¬ (h 31 9) ≤ v2 → G X d 112 96 [some (.ref 31), some (.ref v1), some (.int v2), none] [] h) : G X d 112 88 [some (.ref 31), some (.ref v1), some (.int v2), none] [] h := by
  refine g_iload_n d_112_88 rfl rfl ?_
  refine g_aload_n d_112_89 rfl rfl ?_
  refine g_getf (ci := 1) (k := 9) d_112_90 wd_101 (Nat.le_of_ble_eq_true rfl) rfl rfl ?_
  exact g_icmp_ge (tgt := 101) d_112_93 (by decide) (fun q => g_mask [true, true, false, false] (kt q)) kf

theorem k_112_96 {X : GX} {d : Nat} {h : Hp} {v1 : Nat} {v2 : Int32} (o0 : sh v1 = (1, 3)) (hq : RtX X none (wr (wr h 31 9 v2) 31 10 (((wr h 31 9 v2) 31 10) ||| ((wr h 31 9 v2) v1 2)))) : G X d 112 96 [some (.ref 31), some (.ref v1), some (.int v2), none] [] h := by
  refine g_aload_n d_112_96 rfl rfl ?_
  refine g_iload_n d_112_97 rfl rfl ?_
  refine g_putf (ci := 1) (k := 9) d_112_98 wd_101 (Nat.le_of_ble_eq_true rfl) (Nat.le_of_ble_eq_true rfl) rfl rfl (Or.inl ⟨rfl, rfl⟩) rfl ?_
  refine g_aload_n d_112_101 rfl rfl ?_
  refine g_dup d_112_102 rfl ?_
  refine g_getf (ci := 1) (k := 10) d_112_103 wd_103 (Nat.le_of_ble_eq_true rfl) rfl rfl ?_
  refine g_aload_n d_112_106 rfl rfl ?_
  refine g_getf (ci := 3) (k := 2) d_112_107 wd_42 (Nat.le_of_ble_eq_true rfl) rfl o0 ?_
  refine g_ior d_112_110 ?_
  refine g_putf (ci := 1) (k := 10) d_112_111 wd_103 (Nat.le_of_ble_eq_true rfl) (Nat.le_of_ble_eq_true rfl) rfl rfl (Or.inl ⟨rfl, rfl⟩) rfl ?_
  exact g_retv d_112_114 rfl hq

theorem k_112_101 {X : GX} {d : Nat} {h : Hp} {v1 : Nat} (o0 : sh v1 = (1, 3)) (hq : RtX X none (wr h 31 10 ((h 31 10) ||| (h v1 2)))) : G X d 112 101 [some (.ref 31), some (.ref v1), none, none] [] h := by
  refine g_aload_n d_112_101 rfl rfl ?_
  refine g_dup d_112_102 rfl ?_
  refine g_getf (ci := 1) (k := 10) d_112_103 wd_103 (Nat.le_of_ble_eq_true rfl) rfl rfl ?_
  refine g_aload_n d_112_106 rfl rfl ?_
  refine g_getf (ci := 3) (k := 2) d_112_107 wd_42 (Nat.le_of_ble_eq_true rfl) rfl o0 ?_
  refine g_ior d_112_110 ?_
  refine g_putf (ci := 1) (k := 10) d_112_111 wd_103 (Nat.le_of_ble_eq_true rfl) (Nat.le_of_ble_eq_true rfl) rfl rfl (Or.inl ⟨rfl, rfl⟩) rfl ?_
  exact g_retv d_112_114 rfl hq

/-! 120 PlayedTruth$Ahead.playGame(I)I -/
theorem k_120_0 {X : GX} {d : Nat} {h : Hp} {v1 : Int32} {d' : Nat} {Q' : Int32 → Hp → Prop} (hdd : d' < d) (hC : CI d' 110 [.ref 31, .int v1] h Q') (kk : ∀ x h', Q' x h' → G X d 120 6 [some (.ref 31), none] [.int x, .ref 31] h') : G X d 120 0 [some (.ref 31), some (.int v1)] [] h := by
  refine g_aload_n d_120_0 rfl rfl ?_
  refine g_aload_n d_120_1 rfl rfl ?_
  refine g_iload_n d_120_2 rfl rfl ?_
  exact g_callVI (mj := 110) 1 [.int v1] [.ref 31] d_120_3 wd_267 mo_110 mc_110 mv_110 rfl rfl rfl (Nat.le_of_ble_eq_true rfl) rfl hdd hC (fun x h' q => g_mask [true, false] (kk x h' q))

theorem k_120_6 {X : GX} {d : Nat} {h : Hp} {s0 : Int32} {s1 : Nat} {d' : Nat} {Q' : Nat → Hp → Prop} (o0 : sh s1 = (1, 1)) (hdd : d' < d) (hC : CR d' 87 [.ref 31] (wr h s1 5 s0) Q') (kk : ∀ x h', Q' x h' → G X d 120 13 [some (.ref 31), none] [.ref x] h') : G X d 120 6 [some (.ref 31), none] [.int s0, .ref s1] h := by
  refine g_putf (ci := 1) (k := 5) d_120_6 wd_93 (Nat.le_of_ble_eq_true rfl) (Nat.le_of_ble_eq_true rfl) rfl rfl (Or.inl ⟨rfl, rfl⟩) o0 ?_
  refine g_aload_n d_120_9 rfl rfl ?_
  exact g_callVR (mj := 87) 1 [] [] d_120_10 wd_235 mo_87 mc_87 mv_87 rfl rfl rfl (Nat.le_of_ble_eq_true rfl) rfl hdd hC kk

theorem k_120_13 {X : GX} {d : Nat} {h : Hp} {s0 : Nat} {d' : Nat} {Q' : Int32 → Hp → Prop} (hdd : d' < d) (hC : CI d' 121 [.ref 31, .int 0] h Q') (kk : ∀ x h', Q' x h' → G X d 120 19 [none, none] [.int x] h') : G X d 120 13 [some (.ref 31), none] [.ref s0] h := by
  refine g_pop d_120_13 rfl ?_
  refine g_aload_n d_120_14 rfl rfl ?_
  refine g_iconst (v := 0) d_120_15 (by decide) ?_
  exact g_callVI (mj := 121) 1 [.int 0] [] d_120_16 wd_281 mo_121 mc_121 mv_121 rfl rfl rfl (Nat.le_of_ble_eq_true rfl) rfl hdd hC (fun x h' q => g_mask [false, false] (kk x h' q))

theorem k_120_19 {X : GX} {d : Nat} {h : Hp} {s0 : Int32} (hq : RtX X (some (.int s0)) h) : G X d 120 19 [none, none] [.int s0] h := by
  exact g_reti d_120_19 rfl hq

/-! 121 PlayedTruth$Ahead.valueOfGame(I)I -/
theorem k_121_0 {X : GX} {d : Nat} {h : Hp} {v1 : Int32} (kt : (h 31 5) ≤ v1 → G X d 121 13 [some (.ref 31), some (.int v1), none, none, none, none, none] [] h) (kf : ¬ (h 31 5) ≤ v1 → G X d 121 8 [some (.ref 31), some (.int v1), none, none, none, none, none] [] h) : G X d 121 0 [some (.ref 31), some (.int v1), none, none, none, none, none] [] h := by
  refine g_iload_n d_121_0 rfl rfl ?_
  refine g_aload_n d_121_1 rfl rfl ?_
  refine g_getf (ci := 1) (k := 5) d_121_2 wd_93 (Nat.le_of_ble_eq_true rfl) rfl rfl ?_
  exact g_icmp_ge (tgt := 13) d_121_5 (by decide) kt kf

theorem k_121_8 {X : GX} {d : Nat} {h : Hp} {v1 : Int32} (kt : v1 < 4 → G X d 121 31 [some (.ref 31), some (.int v1), none, none, none, none, none] [] h) (kf : ¬ v1 < 4 → G X d 121 13 [some (.ref 31), some (.int v1), none, none, none, none, none] [] h) : G X d 121 8 [some (.ref 31), some (.int v1), none, none, none, none, none] [] h := by
  refine g_iload_n d_121_8 rfl rfl ?_
  refine g_iconst (v := 4) d_121_9 (by decide) ?_
  exact g_icmp_lt (tgt := 31) d_121_10 (by decide) kt kf

theorem k_121_13 {X : GX} {d : Nat} {h : Hp} {v1 : Int32} (b0 : vp_in v1 5) (o1 : sh (35 + 3 * Int32.toNatClampNeg v1) = (1, 3)) (hq : RtX X (some (.int ((h (35 + 3 * Int32.toNatClampNeg v1) 4) - (h 13 4)))) h) : G X d 121 13 [some (.ref 31), some (.int v1), none, none, none, none, none] [] h := by
  refine g_aload_n d_121_13 rfl rfl ?_
  refine g_getf (ci := 1) (k := 2) d_121_14 wd_90 (Nat.le_of_ble_eq_true rfl) rfl rfl ?_
  refine g_iload_n d_121_17 rfl rfl ?_
  refine g_aald (tt := 0) d_121_18 (by decide) rfl b0 ?_
  refine g_getf (ci := 3) (k := 4) d_121_19 wd_49 (Nat.le_of_ble_eq_true rfl) rfl o1 ?_
  refine g_aload_n d_121_22 rfl rfl ?_
  refine g_getf (ci := 1) (k := 1) d_121_23 wd_89 (Nat.le_of_ble_eq_true rfl) rfl rfl ?_
  refine g_getf (ci := 3) (k := 4) d_121_26 wd_49 (Nat.le_of_ble_eq_true rfl) rfl rfl ?_
  refine g_isub d_121_29 ?_
  exact g_reti d_121_30 rfl hq

theorem k_121_31 {X : GX} {d : Nat} {h : Hp} {v1 : Int32} (kt : ¬ (v1 - v1 / 2 * 2) = 0 → G X d 121 41 [some (.ref 31), some (.int v1), none, none, none, none, none] [] h) (kf : (v1 - v1 / 2 * 2) = 0 → G X d 121 37 [some (.ref 31), some (.int v1), none, none, none, none, none] [] h) : G X d 121 31 [some (.ref 31), some (.int v1), none, none, none, none, none] [] h := by
  refine g_iload_n d_121_31 rfl rfl ?_
  refine g_iconst (v := 2) d_121_32 (by decide) ?_
  refine g_irem d_121_33 (by decide) ?_
  exact g_if_ne (tgt := 41) d_121_34 (by decide) kt kf

theorem k_121_37 {X : GX} {d : Nat} {h : Hp} {v1 : Int32} (b0 : vp_in (v1 + 1) 5) (kk : G X d 121 58 [some (.ref 31), some (.int v1), some (.int 1), some (.int 0), some (.ref (35 + 3 * Int32.toNatClampNeg (v1 + 1))), some (.int 0), none] [] h) : G X d 121 37 [some (.ref 31), some (.int v1), none, none, none, none, none] [] h := by
  refine g_iconst (v := 1) d_121_37 (by decide) ?_
  refine g_goto (tgt := 42) d_121_38 (by decide) ?_
  refine g_istore_n d_121_42 rfl (Nat.le_of_ble_eq_true rfl) rfl ?_
  refine g_iconst (v := 0) d_121_43 (by decide) ?_
  refine g_istore_n d_121_44 rfl (Nat.le_of_ble_eq_true rfl) rfl ?_
  refine g_aload_n d_121_45 rfl rfl ?_
  refine g_getf (ci := 1) (k := 2) d_121_46 wd_90 (Nat.le_of_ble_eq_true rfl) rfl rfl ?_
  refine g_iload_n d_121_49 rfl rfl ?_
  refine g_iconst (v := 1) d_121_50 (by decide) ?_
  refine g_iadd d_121_51 ?_
  refine g_aald (tt := 0) d_121_52 (by decide) rfl b0 ?_
  refine g_astore d_121_53 (Nat.le_of_ble_eq_true rfl) rfl ?_
  refine g_iconst (v := 0) d_121_55 (by decide) ?_
  refine g_istore d_121_56 (Nat.le_of_ble_eq_true rfl) rfl ?_
  exact kk

theorem k_121_41 {X : GX} {d : Nat} {h : Hp} {v1 : Int32} (b0 : vp_in (v1 + 1) 5) (kk : G X d 121 58 [some (.ref 31), some (.int v1), some (.int 0), some (.int 0), some (.ref (35 + 3 * Int32.toNatClampNeg (v1 + 1))), some (.int 0), none] [] h) : G X d 121 41 [some (.ref 31), some (.int v1), none, none, none, none, none] [] h := by
  refine g_iconst (v := 0) d_121_41 (by decide) ?_
  refine g_istore_n d_121_42 rfl (Nat.le_of_ble_eq_true rfl) rfl ?_
  refine g_iconst (v := 0) d_121_43 (by decide) ?_
  refine g_istore_n d_121_44 rfl (Nat.le_of_ble_eq_true rfl) rfl ?_
  refine g_aload_n d_121_45 rfl rfl ?_
  refine g_getf (ci := 1) (k := 2) d_121_46 wd_90 (Nat.le_of_ble_eq_true rfl) rfl rfl ?_
  refine g_iload_n d_121_49 rfl rfl ?_
  refine g_iconst (v := 1) d_121_50 (by decide) ?_
  refine g_iadd d_121_51 ?_
  refine g_aald (tt := 0) d_121_52 (by decide) rfl b0 ?_
  refine g_astore d_121_53 (Nat.le_of_ble_eq_true rfl) rfl ?_
  refine g_iconst (v := 0) d_121_55 (by decide) ?_
  refine g_istore d_121_56 (Nat.le_of_ble_eq_true rfl) rfl ?_
  exact kk

theorem k_121_58 {X : GX} {d : Nat} {h : Hp} {v1 : Int32} {v2 : Int32} {v3 : Int32} {v4 : Nat} {v5 : Int32} (kt : (h 1 7) < v5 → G X d 121 145 [none, none, none, some (.int v3), none, none, none] [] h) (kf : ¬ (h 1 7) < v5 → G X d 121 70 [some (.ref 31), some (.int v1), some (.int v2), some (.int v3), some (.ref v4), some (.int v5), none] [] h) : G X d 121 58 [some (.ref 31), some (.int v1), some (.int v2), some (.int v3), some (.ref v4), some (.int v5), none] [] h := by
  refine g_iload d_121_58 rfl ?_
  refine g_aload_n d_121_60 rfl rfl ?_
  refine g_getf (ci := 1) (k := 0) d_121_61 wd_88 (Nat.le_of_ble_eq_true rfl) rfl rfl ?_
  refine g_getf (ci := 6) (k := 7) d_121_64 wd_29 (Nat.le_of_ble_eq_true rfl) rfl rfl ?_
  exact g_icmp_gt (tgt := 145) d_121_67 (by decide) (fun q => g_mask [false, false, false, true, false, false, false] (kt q)) kf

theorem k_121_70 {X : GX} {d : Nat} {h : Hp} {v1 : Int32} {v2 : Int32} {v3 : Int32} {v4 : Nat} {v5 : Int32} {d' : Nat} {Q' : Hp → Prop} (b0 : vp_in v1 5) (o1 : sh v4 = (1, 3)) (hdd : d' < d) (hC : CV d' 88 [.ref v4, .ref (35 + 3 * Int32.toNatClampNeg v1)] h Q') (kk : ∀ h', Q' h' → G X d 121 81 [some (.ref 31), some (.int v1), some (.int v2), some (.int v3), some (.ref v4), some (.int v5), none] [] h') : G X d 121 70 [some (.ref 31), some (.int v1), some (.int v2), some (.int v3), some (.ref v4), some (.int v5), none] [] h := by
  refine g_aload d_121_70 rfl ?_
  refine g_aload_n d_121_72 rfl rfl ?_
  refine g_getf (ci := 1) (k := 2) d_121_73 wd_90 (Nat.le_of_ble_eq_true rfl) rfl rfl ?_
  refine g_iload_n d_121_76 rfl rfl ?_
  refine g_aald (tt := 0) d_121_77 (by decide) rfl b0 ?_
  exact g_callVV (mj := 88) 3 [.ref (35 + 3 * Int32.toNatClampNeg v1)] [] d_121_78 wd_236 mo_88 mc_88 mv_88 rfl rfl rfl (Nat.le_of_ble_eq_true rfl) o1 hdd hC kk

theorem k_121_81 {X : GX} {d : Nat} {h : Hp} {v1 : Int32} {v2 : Int32} {v3 : Int32} {v4 : Nat} {v5 : Int32} {d' : Nat} {Q' : Int32 → Hp → Prop} (hdd : d' < d) (hC : CI d' 81 [.ref 1, .ref v4, .int v5] h Q') (kk : ∀ x h', Q' x h' → G X d 121 92 [some (.ref 31), some (.int v1), some (.int v2), some (.int v3), some (.ref v4), some (.int v5), none] [.int x] h') : G X d 121 81 [some (.ref 31), some (.int v1), some (.int v2), some (.int v3), some (.ref v4), some (.int v5), none] [] h := by
  refine g_aload_n d_121_81 rfl rfl ?_
  refine g_getf (ci := 1) (k := 0) d_121_82 wd_88 (Nat.le_of_ble_eq_true rfl) rfl rfl ?_
  refine g_aload d_121_85 rfl ?_
  refine g_iload d_121_87 rfl ?_
  exact g_callVI (mj := 81) 6 [.ref v4, .int v5] [] d_121_89 wd_240 mo_81 mc_81 mv_81 rfl rfl rfl (Nat.le_of_ble_eq_true rfl) rfl hdd hC kk

theorem k_121_92 {X : GX} {d : Nat} {h : Hp} {v1 : Int32} {v2 : Int32} {v3 : Int32} {v4 : Nat} {v5 : Int32} {s0 : Int32} {d' : Nat} {Q' : Int32 → Hp → Prop} (hdd : d' < d) (hC : CI d' 121 [.ref 31, .int (v1 + 1)] h Q') (kk : ∀ x h', Q' x h' → G X d 121 100 [some (.ref 31), some (.int v1), some (.int v2), some (.int v3), some (.ref v4), some (.int v5), none] [.int x] h') : G X d 121 92 [some (.ref 31), some (.int v1), some (.int v2), some (.int v3), some (.ref v4), some (.int v5), none] [.int s0] h := by
  refine g_pop d_121_92 rfl ?_
  refine g_aload_n d_121_93 rfl rfl ?_
  refine g_iload_n d_121_94 rfl rfl ?_
  refine g_iconst (v := 1) d_121_95 (by decide) ?_
  refine g_iadd d_121_96 ?_
  exact g_callVI (mj := 121) 1 [.int (v1 + 1)] [] d_121_97 wd_281 mo_121 mc_121 mv_121 rfl rfl rfl (Nat.le_of_ble_eq_true rfl) rfl hdd hC kk

theorem k_121_100 {X : GX} {d : Nat} {h : Hp} {v1 : Int32} {v2 : Int32} {v3 : Int32} {v4 : Nat} {v5 : Int32} {s0 : Int32} (kt : v5 = 0 → G X d 121 126 [some (.ref 31), some (.int v1), some (.int v2), none, some (.ref v4), some (.int v5), some (.int s0)] [] h) (kf : ¬ v5 = 0 → G X d 121 107 [some (.ref 31), some (.int v1), some (.int v2), some (.int v3), some (.ref v4), some (.int v5), some (.int s0)] [] h) : G X d 121 100 [some (.ref 31), some (.int v1), some (.int v2), some (.int v3), some (.ref v4), some (.int v5), none] [.int s0] h := by
  refine g_istore d_121_100 (Nat.le_of_ble_eq_true rfl) rfl ?_
  refine g_iload d_121_102 rfl ?_
  exact g_if_eq (tgt := 126) d_121_104 (by decide) (fun q => g_mask [true, true, true, false, true, true, true] (kt q)) kf

theorem k_121_107 {X : GX} {d : Nat} {h : Hp} {v1 : Int32} {v2 : Int32} {v3 : Int32} {v4 : Nat} {v5 : Int32} {v6 : Int32} (kt : v2 = 0 → G X d 121 120 [some (.ref 31), some (.int v1), some (.int v2), some (.int v3), some (.ref v4), some (.int v5), some (.int v6)] [] h) (kf : ¬ v2 = 0 → G X d 121 111 [some (.ref 31), some (.int v1), some (.int v2), some (.int v3), some (.ref v4), some (.int v5), some (.int v6)] [] h) : G X d 121 107 [some (.ref 31), some (.int v1), some (.int v2), some (.int v3), some (.ref v4), some (.int v5), some (.int v6)] [] h := by
  refine g_iload_n d_121_107 rfl rfl ?_
  exact g_if_eq (tgt := 120) d_121_108 (by decide) kt kf

theorem k_121_111 {X : GX} {d : Nat} {h : Hp} {v1 : Int32} {v2 : Int32} {v3 : Int32} {v4 : Nat} {v5 : Int32} {v6 : Int32} (kt : v6 ≤ v3 → G X d 121 139 [some (.ref 31), some (.int v1), some (.int v2), some (.int v3), some (.ref v4), some (.int v5), none] [] h) (kf : ¬ v6 ≤ v3 → G X d 121 117 [some (.ref 31), some (.int v1), some (.int v2), none, some (.ref v4), some (.int v5), some (.int v6)] [] h) : G X d 121 111 [some (.ref 31), some (.int v1), some (.int v2), some (.int v3), some (.ref v4), some (.int v5), some (.int v6)] [] h := by
  refine g_iload d_121_111 rfl ?_
  refine g_iload_n d_121_113 rfl rfl ?_
  exact g_icmp_le (tgt := 139) d_121_114 (by decide) (fun q => g_mask [true, true, true, true, true, true, false] (kt q)) (fun q => g_mask [true, true, true, false, true, true, true] (kf q))

theorem k_121_117 {X : GX} {d : Nat} {h : Hp} {v1 : Int32} {v2 : Int32} {v4 : Nat} {v5 : Int32} {v6 : Int32} (kt : ¬ v1 = 0 → G X d 121 139 [some (.ref 31), some (.int v1), some (.int v2), some (.int v6), some (.ref v4), some (.int v5), none] [] h) (kf : v1 = 0 → G X d 121 133 [some (.ref 31), some (.int v1), some (.int v2), some (.int v6), some (.ref v4), some (.int v5), none] [] h) : G X d 121 117 [some (.ref 31), some (.int v1), some (.int v2), none, some (.ref v4), some (.int v5), some (.int v6)] [] h := by
  refine g_goto (tgt := 126) d_121_117 (by decide) ?_
  refine g_iload d_121_126 rfl ?_
  refine g_istore_n d_121_128 rfl (Nat.le_of_ble_eq_true rfl) rfl ?_
  refine g_iload_n d_121_129 rfl rfl ?_
  exact g_if_ne (tgt := 139) d_121_130 (by decide) (fun q => g_mask [true, true, true, true, true, true, false] (kt q)) (fun q => g_mask [true, true, true, true, true, true, false] (kf q))

theorem k_121_120 {X : GX} {d : Nat} {h : Hp} {v1 : Int32} {v2 : Int32} {v3 : Int32} {v4 : Nat} {v5 : Int32} {v6 : Int32} (kt : v3 ≤ v6 → G X d 121 139 [some (.ref 31), some (.int v1), some (.int v2), some (.int v3), some (.ref v4), some (.int v5), none] [] h) (kf : ¬ v3 ≤ v6 → G X d 121 126 [some (.ref 31), some (.int v1), some (.int v2), none, some (.ref v4), some (.int v5), some (.int v6)] [] h) : G X d 121 120 [some (.ref 31), some (.int v1), some (.int v2), some (.int v3), some (.ref v4), some (.int v5), some (.int v6)] [] h := by
  refine g_iload d_121_120 rfl ?_
  refine g_iload_n d_121_122 rfl rfl ?_
  exact g_icmp_ge (tgt := 139) d_121_123 (by decide) (fun q => g_mask [true, true, true, true, true, true, false] (kt q)) (fun q => g_mask [true, true, true, false, true, true, true] (kf q))

theorem k_121_126 {X : GX} {d : Nat} {h : Hp} {v1 : Int32} {v2 : Int32} {v4 : Nat} {v5 : Int32} {v6 : Int32} (kt : ¬ v1 = 0 → G X d 121 139 [some (.ref 31), some (.int v1), some (.int v2), some (.int v6), some (.ref v4), some (.int v5), none] [] h) (kf : v1 = 0 → G X d 121 133 [some (.ref 31), some (.int v1), some (.int v2), some (.int v6), some (.ref v4), some (.int v5), none] [] h) : G X d 121 126 [some (.ref 31), some (.int v1), some (.int v2), none, some (.ref v4), some (.int v5), some (.int v6)] [] h := by
  refine g_iload d_121_126 rfl ?_
  refine g_istore_n d_121_128 rfl (Nat.le_of_ble_eq_true rfl) rfl ?_
  refine g_iload_n d_121_129 rfl rfl ?_
  exact g_if_ne (tgt := 139) d_121_130 (by decide) (fun q => g_mask [true, true, true, true, true, true, false] (kt q)) (fun q => g_mask [true, true, true, true, true, true, false] (kf q))

theorem k_121_133 {X : GX} {d : Nat} {h : Hp} {v1 : Int32} {v2 : Int32} {v3 : Int32} {v4 : Nat} {v5 : Int32} (kk : G X d 121 58 [some (.ref 31), some (.int v1), some (.int v2), some (.int v3), some (.ref v4), some (.int (v5 + 1)), none] [] (wr h 31 11 v5)) : G X d 121 133 [some (.ref 31), some (.int v1), some (.int v2), some (.int v3), some (.ref v4), some (.int v5), none] [] h := by
  refine g_aload_n d_121_133 rfl rfl ?_
  refine g_iload d_121_134 rfl ?_
  refine g_putf (ci := 1) (k := 11) d_121_136 wd_105 (Nat.le_of_ble_eq_true rfl) (Nat.le_of_ble_eq_true rfl) rfl rfl (Or.inl ⟨rfl, rfl⟩) rfl ?_
  refine g_iinc (w := 1) d_121_139 rfl (by decide) (Nat.le_of_ble_eq_true rfl) rfl ?_
  refine g_goto (tgt := 58) d_121_142 (by decide) ?_
  exact kk

theorem k_121_139 {X : GX} {d : Nat} {h : Hp} {v1 : Int32} {v2 : Int32} {v3 : Int32} {v4 : Nat} {v5 : Int32} (kk : G X d 121 58 [some (.ref 31), some (.int v1), some (.int v2), some (.int v3), some (.ref v4), some (.int (v5 + 1)), none] [] h) : G X d 121 139 [some (.ref 31), some (.int v1), some (.int v2), some (.int v3), some (.ref v4), some (.int v5), none] [] h := by
  refine g_iinc (w := 1) d_121_139 rfl (by decide) (Nat.le_of_ble_eq_true rfl) rfl ?_
  refine g_goto (tgt := 58) d_121_142 (by decide) ?_
  exact kk

theorem k_121_145 {X : GX} {d : Nat} {h : Hp} {v3 : Int32} (hq : RtX X (some (.int v3)) h) : G X d 121 145 [none, none, none, some (.int v3), none, none, none] [] h := by
  refine g_iload_n d_121_145 rfl rfl ?_
  exact g_reti d_121_146 rfl hq

/-! 137 PlayedTruth$Ahead.timesByLot(II)I -/
theorem k_137_0 {X : GX} {d : Nat} {h : Hp} {v1 : Int32} {v2 : Int32} (kk : G X d 137 14 [some (.ref 31), some (.int v1), some (.int v2), some (.int 0), some (.int (h 13 5)), some (.int 0), none, none] [] h) : G X d 137 0 [some (.ref 31), some (.int v1), some (.int v2), none, none, none, none, none] [] h := by
  refine g_iconst (v := 0) d_137_0 (by decide) ?_
  refine g_istore_n d_137_1 rfl (Nat.le_of_ble_eq_true rfl) rfl ?_
  refine g_aload_n d_137_2 rfl rfl ?_
  refine g_getf (ci := 1) (k := 1) d_137_3 wd_89 (Nat.le_of_ble_eq_true rfl) rfl rfl ?_
  refine g_getf (ci := 3) (k := 5) d_137_6 wd_53 (Nat.le_of_ble_eq_true rfl) rfl rfl ?_
  refine g_istore d_137_9 (Nat.le_of_ble_eq_true rfl) rfl ?_
  refine g_iconst (v := 0) d_137_11 (by decide) ?_
  refine g_istore d_137_12 (Nat.le_of_ble_eq_true rfl) rfl ?_
  exact kk

theorem k_137_14 {X : GX} {d : Nat} {h : Hp} {v1 : Int32} {v2 : Int32} {v3 : Int32} {v4 : Int32} {v5 : Int32} (kt : v1 ≤ v5 → G X d 137 104 [none, none, none, some (.int v3), none, none, none, none] [] h) (kf : ¬ v1 ≤ v5 → G X d 137 20 [some (.ref 31), some (.int v1), some (.int v2), some (.int v3), some (.int v4), some (.int v5), none, none] [] h) : G X d 137 14 [some (.ref 31), some (.int v1), some (.int v2), some (.int v3), some (.int v4), some (.int v5), none, none] [] h := by
  refine g_iload d_137_14 rfl ?_
  refine g_iload_n d_137_16 rfl rfl ?_
  exact g_icmp_ge (tgt := 104) d_137_17 (by decide) (fun q => g_mask [false, false, false, true, false, false, false, false] (kt q)) kf

theorem k_137_20 {X : GX} {d : Nat} {h : Hp} {v1 : Int32} {v2 : Int32} {v3 : Int32} {v4 : Int32} {v5 : Int32} {d' : Nat} {Q' : Nat → Hp → Prop} (hdd : d' < d) (hC : CR d' 87 [.ref 31] h Q') (kk : ∀ x h', Q' x h' → G X d 137 24 [some (.ref 31), some (.int v1), some (.int v2), some (.int v3), some (.int v4), some (.int v5), none, none] [.ref x] h') : G X d 137 20 [some (.ref 31), some (.int v1), some (.int v2), some (.int v3), some (.int v4), some (.int v5), none, none] [] h := by
  refine g_aload_n d_137_20 rfl rfl ?_
  exact g_callVR (mj := 87) 1 [] [] d_137_21 wd_235 mo_87 mc_87 mv_87 rfl rfl rfl (Nat.le_of_ble_eq_true rfl) rfl hdd hC kk

theorem k_137_24 {X : GX} {d : Nat} {h : Hp} {v1 : Int32} {v2 : Int32} {v3 : Int32} {v4 : Int32} {v5 : Int32} {s0 : Nat} (o0 : sh s0 = (1, 3)) (kk : G X d 137 36 [some (.ref 31), some (.int v1), some (.int v2), some (.int v3), none, some (.int v5), some (.ref s0), some (.int 0)] [] (wr h s0 5 v4)) : G X d 137 24 [some (.ref 31), some (.int v1), some (.int v2), some (.int v3), some (.int v4), some (.int v5), none, none] [.ref s0] h := by
  refine g_astore d_137_24 (Nat.le_of_ble_eq_true rfl) rfl ?_
  refine g_aload d_137_26 rfl ?_
  refine g_iload d_137_28 rfl ?_
  refine g_putf (ci := 3) (k := 5) d_137_30 wd_53 (Nat.le_of_ble_eq_true rfl) (Nat.le_of_ble_eq_true rfl) rfl rfl (Or.inl ⟨rfl, rfl⟩) o0 ?_
  refine g_iconst (v := 0) d_137_33 (by decide) ?_
  refine g_istore d_137_34 (Nat.le_of_ble_eq_true rfl) rfl ?_
  exact g_mask [true, true, true, true, false, true, true, true] kk

theorem k_137_36 {X : GX} {d : Nat} {h : Hp} {v1 : Int32} {v2 : Int32} {v3 : Int32} {v5 : Int32} {v6 : Nat} {v7 : Int32} (kt : 16 ≤ v7 → G X d 137 71 [some (.ref 31), some (.int v1), some (.int v2), some (.int v3), none, some (.int v5), some (.ref v6), none] [] h) (kf : ¬ 16 ≤ v7 → G X d 137 43 [some (.ref 31), some (.int v1), some (.int v2), some (.int v3), none, some (.int v5), some (.ref v6), some (.int v7)] [] h) : G X d 137 36 [some (.ref 31), some (.int v1), some (.int v2), some (.int v3), none, some (.int v5), some (.ref v6), some (.int v7)] [] h := by
  refine g_iload d_137_36 rfl ?_
  refine g_bipush (v := 16) d_137_38 (by decide) ?_
  exact g_icmp_ge (tgt := 71) d_137_40 (by decide) (fun q => g_mask [true, true, true, true, false, true, true, false] (kt q)) kf

theorem k_137_43 {X : GX} {d : Nat} {h : Hp} {v1 : Int32} {v2 : Int32} {v3 : Int32} {v5 : Int32} {v6 : Nat} {v7 : Int32} {d' : Nat} {Q' : Int32 → Hp → Prop} (hdd : d' < d) (hC : CI d' 38 [.ref 1, .ref v6] h Q') (kk : ∀ x h', Q' x h' → G X d 137 52 [some (.ref 31), some (.int v1), some (.int v2), some (.int v3), none, some (.int v5), some (.ref v6), some (.int v7)] [.int x] h') : G X d 137 43 [some (.ref 31), some (.int v1), some (.int v2), some (.int v3), none, some (.int v5), some (.ref v6), some (.int v7)] [] h := by
  refine g_aload_n d_137_43 rfl rfl ?_
  refine g_getf (ci := 1) (k := 0) d_137_44 wd_88 (Nat.le_of_ble_eq_true rfl) rfl rfl ?_
  refine g_aload d_137_47 rfl ?_
  exact g_callVI (mj := 38) 6 [.ref v6] [] d_137_49 wd_238 mo_38 mc_38 mv_38 rfl rfl rfl (Nat.le_of_ble_eq_true rfl) rfl hdd hC kk

theorem k_137_52 {X : GX} {d : Nat} {h : Hp} {v1 : Int32} {v2 : Int32} {v3 : Int32} {v5 : Int32} {v6 : Nat} {v7 : Int32} {s0 : Int32} (kt : ¬ s0 = 0 → G X d 137 71 [some (.ref 31), some (.int v1), some (.int v2), some (.int v3), none, some (.int v5), some (.ref v6), none] [] h) (kf : s0 = 0 → G X d 137 55 [some (.ref 31), some (.int v1), some (.int v2), some (.int v3), none, some (.int v5), some (.ref v6), some (.int v7)] [] h) : G X d 137 52 [some (.ref 31), some (.int v1), some (.int v2), some (.int v3), none, some (.int v5), some (.ref v6), some (.int v7)] [.int s0] h := by
  exact g_if_ne (tgt := 71) d_137_52 (by decide) (fun q => g_mask [true, true, true, true, false, true, true, false] (kt q)) kf

theorem k_137_55 {X : GX} {d : Nat} {h : Hp} {v1 : Int32} {v2 : Int32} {v3 : Int32} {v5 : Int32} {v6 : Nat} {v7 : Int32} {d' : Nat} {Q' : Int32 → Hp → Prop} (hdd : d' < d) (hC : CI d' 135 [.ref 1, .ref v6] h Q') (kk : ∀ x h', Q' x h' → G X d 137 64 [some (.ref 31), some (.int v1), some (.int v2), some (.int v3), none, some (.int v5), some (.ref v6), some (.int v7)] [.int x] h') : G X d 137 55 [some (.ref 31), some (.int v1), some (.int v2), some (.int v3), none, some (.int v5), some (.ref v6), some (.int v7)] [] h := by
  refine g_aload_n d_137_55 rfl rfl ?_
  refine g_getf (ci := 1) (k := 0) d_137_56 wd_88 (Nat.le_of_ble_eq_true rfl) rfl rfl ?_
  refine g_aload d_137_59 rfl ?_
  exact g_callVI (mj := 135) 6 [.ref v6] [] d_137_61 wd_306 mo_135 mc_135 mv_135 rfl rfl rfl (Nat.le_of_ble_eq_true rfl) rfl hdd hC kk

theorem k_137_64 {X : GX} {d : Nat} {h : Hp} {v1 : Int32} {v2 : Int32} {v3 : Int32} {v5 : Int32} {v6 : Nat} {v7 : Int32} {s0 : Int32} (kk : G X d 137 36 [some (.ref 31), some (.int v1), some (.int v2), some (.int v3), none, some (.int v5), some (.ref v6), some (.int (v7 + 1))] [] h) : G X d 137 64 [some (.ref 31), some (.int v1), some (.int v2), some (.int v3), none, some (.int v5), some (.ref v6), some (.int v7)] [.int s0] h := by
  refine g_pop d_137_64 rfl ?_
  refine g_iinc (w := 1) d_137_65 rfl (by decide) (Nat.le_of_ble_eq_true rfl) rfl ?_
  refine g_goto (tgt := 36) d_137_68 (by decide) ?_
  exact kk

theorem k_137_71 {X : GX} {d : Nat} {h : Hp} {v1 : Int32} {v2 : Int32} {v3 : Int32} {v5 : Int32} {v6 : Nat} (o0 : sh v6 = (1, 3)) (kt : ((h v6 4) - (h 13 4)) < v2 → G X d 137 98 [some (.ref 31), some (.int v1), some (.int v2), some (.int v3), some (.int (h v6 5)), some (.int v5), none, none] [] h) (kf : ¬ ((h v6 4) - (h 13 4)) < v2 → G X d 137 95 [some (.ref 31), some (.int v1), some (.int v2), some (.int v3), some (.int (h v6 5)), some (.int v5), none, none] [] h) : G X d 137 71 [some (.ref 31), some (.int v1), some (.int v2), some (.int v3), none, some (.int v5), some (.ref v6), none] [] h := by
  refine g_aload d_137_71 rfl ?_
  refine g_getf (ci := 3) (k := 5) d_137_73 wd_53 (Nat.le_of_ble_eq_true rfl) rfl o0 ?_
  refine g_istore d_137_76 (Nat.le_of_ble_eq_true rfl) rfl ?_
  refine g_aload d_137_78 rfl ?_
  refine g_getf (ci := 3) (k := 4) d_137_80 wd_49 (Nat.le_of_ble_eq_true rfl) rfl o0 ?_
  refine g_aload_n d_137_83 rfl rfl ?_
  refine g_getf (ci := 1) (k := 1) d_137_84 wd_89 (Nat.le_of_ble_eq_true rfl) rfl rfl ?_
  refine g_getf (ci := 3) (k := 4) d_137_87 wd_49 (Nat.le_of_ble_eq_true rfl) rfl rfl ?_
  refine g_isub d_137_90 ?_
  refine g_iload_n d_137_91 rfl rfl ?_
  exact g_icmp_lt (tgt := 98) d_137_92 (by decide) (fun q => g_mask [true, true, true, true, true, true, false, false] (kt q)) (fun q => g_mask [true, true, true, true, true, true, false, false] (kf q))

theorem k_137_95 {X : GX} {d : Nat} {h : Hp} {v1 : Int32} {v2 : Int32} {v3 : Int32} {v4 : Int32} {v5 : Int32} (kk : G X d 137 14 [some (.ref 31), some (.int v1), some (.int v2), some (.int (v3 + 1)), some (.int v4), some (.int (v5 + 1)), none, none] [] h) : G X d 137 95 [some (.ref 31), some (.int v1), some (.int v2), some (.int v3), some (.int v4), some (.int v5), none, none] [] h := by
  refine g_iinc (w := 1) d_137_95 rfl (by decide) (Nat.le_of_ble_eq_true rfl) rfl ?_
  refine g_iinc (w := 1) d_137_98 rfl (by decide) (Nat.le_of_ble_eq_true rfl) rfl ?_
  refine g_goto (tgt := 14) d_137_101 (by decide) ?_
  exact kk

theorem k_137_98 {X : GX} {d : Nat} {h : Hp} {v1 : Int32} {v2 : Int32} {v3 : Int32} {v4 : Int32} {v5 : Int32} (kk : G X d 137 14 [some (.ref 31), some (.int v1), some (.int v2), some (.int v3), some (.int v4), some (.int (v5 + 1)), none, none] [] h) : G X d 137 98 [some (.ref 31), some (.int v1), some (.int v2), some (.int v3), some (.int v4), some (.int v5), none, none] [] h := by
  refine g_iinc (w := 1) d_137_98 rfl (by decide) (Nat.le_of_ble_eq_true rfl) rfl ?_
  refine g_goto (tgt := 14) d_137_101 (by decide) ?_
  exact kk

theorem k_137_104 {X : GX} {d : Nat} {h : Hp} {v3 : Int32} (hq : RtX X (some (.int v3)) h) : G X d 137 104 [none, none, none, some (.int v3), none, none, none, none] [] h := by
  refine g_iload_n d_137_104 rfl rfl ?_
  exact g_reti d_137_105 rfl hq

/-! 139 PlayedTruth$Ahead.writeRows([I)V -/
theorem k_139_0 {X : GX} {d : Nat} {h : Hp} {v1 : Nat} {d' : Nat} {Q' : Nat → Hp → Prop} (hdd : d' < d) (hC : CR d' 87 [.ref 31] h Q') (kk : ∀ x h', Q' x h' → G X d 139 4 [some (.ref 31), some (.ref v1), none, none] [.ref x] h') : G X d 139 0 [some (.ref 31), some (.ref v1), none, none] [] h := by
  refine g_aload_n d_139_0 rfl rfl ?_
  exact g_callVR (mj := 87) 1 [] [] d_139_1 wd_235 mo_87 mc_87 mv_87 rfl rfl rfl (Nat.le_of_ble_eq_true rfl) rfl hdd hC kk

theorem k_139_4 {X : GX} {d : Nat} {h : Hp} {v1 : Nat} {s0 : Nat} (kk : G X d 139 7 [some (.ref 31), some (.ref v1), some (.ref s0), some (.int 0)] [] h) : G X d 139 4 [some (.ref 31), some (.ref v1), none, none] [.ref s0] h := by
  refine g_astore_n d_139_4 rfl (Nat.le_of_ble_eq_true rfl) rfl ?_
  refine g_iconst (v := 0) d_139_5 (by decide) ?_
  refine g_istore_n d_139_6 rfl (Nat.le_of_ble_eq_true rfl) rfl ?_
  exact kk

theorem k_139_7 {X : GX} {d : Nat} {h : Hp} {v1 : Nat} {v2 : Nat} {v3 : Int32} (kt : (h 31 5) ≤ v3 → G X d 139 64 [none, none, none, none] [] h) (kf : ¬ (h 31 5) ≤ v3 → G X d 139 15 [some (.ref 31), some (.ref v1), some (.ref v2), some (.int v3)] [] h) : G X d 139 7 [some (.ref 31), some (.ref v1), some (.ref v2), some (.int v3)] [] h := by
  refine g_iload_n d_139_7 rfl rfl ?_
  refine g_aload_n d_139_8 rfl rfl ?_
  refine g_getf (ci := 1) (k := 5) d_139_9 wd_93 (Nat.le_of_ble_eq_true rfl) rfl rfl ?_
  exact g_icmp_ge (tgt := 64) d_139_12 (by decide) (fun q => g_mask [false, false, false, false] (kt q)) kf

theorem k_139_15 {X : GX} {d : Nat} {h : Hp} {v1 : Nat} {v2 : Nat} {v3 : Int32} {d' : Nat} {Q' : Int32 → Hp → Prop} (b0 : IA 34 v3) (b1 : IA v1 (v3 * 3)) (hdd : d' < d) (hC : CI d' 81 [.ref 1, .ref v2, .int ((wr h v1 (Int32.toNatClampNeg (v3 * 3)) (h 34 (Int32.toNatClampNeg v3))) 34 (Int32.toNatClampNeg v3))] (wr h v1 (Int32.toNatClampNeg (v3 * 3)) (h 34 (Int32.toNatClampNeg v3))) Q') (kk : ∀ x h', Q' x h' → G X d 139 46 [some (.ref 31), some (.ref v1), some (.ref v2), some (.int v3)] [.int x, .int ((v3 * 3) + 1), .ref v1] h') : G X d 139 15 [some (.ref 31), some (.ref v1), some (.ref v2), some (.int v3)] [] h := by
  refine g_aload_n d_139_15 rfl rfl ?_
  refine g_iload_n d_139_16 rfl rfl ?_
  refine g_iconst (v := 3) d_139_17 (by decide) ?_
  refine g_imul d_139_18 ?_
  refine g_aload_n d_139_19 rfl rfl ?_
  refine g_getf (ci := 1) (k := 8) d_139_20 wd_99 (Nat.le_of_ble_eq_true rfl) rfl rfl ?_
  refine g_iload_n d_139_23 rfl rfl ?_
  refine g_iald d_139_24 b0 ?_
  refine g_iast d_139_25 b1 ?_
  refine g_aload_n d_139_26 rfl rfl ?_
  refine g_iload_n d_139_27 rfl rfl ?_
  refine g_iconst (v := 3) d_139_28 (by decide) ?_
  refine g_imul d_139_29 ?_
  refine g_iconst (v := 1) d_139_30 (by decide) ?_
  refine g_iadd d_139_31 ?_
  refine g_aload_n d_139_32 rfl rfl ?_
  refine g_getf (ci := 1) (k := 0) d_139_33 wd_88 (Nat.le_of_ble_eq_true rfl) rfl rfl ?_
  refine g_aload_n d_139_36 rfl rfl ?_
  refine g_aload_n d_139_37 rfl rfl ?_
  refine g_getf (ci := 1) (k := 8) d_139_38 wd_99 (Nat.le_of_ble_eq_true rfl) rfl rfl ?_
  refine g_iload_n d_139_41 rfl rfl ?_
  refine g_iald d_139_42 b0 ?_
  exact g_callVI (mj := 81) 6 [.ref v2, .int ((wr h v1 (Int32.toNatClampNeg (v3 * 3)) (h 34 (Int32.toNatClampNeg v3))) 34 (Int32.toNatClampNeg v3))] [.int ((v3 * 3) + 1), .ref v1] d_139_43 wd_240 mo_81 mc_81 mv_81 rfl rfl rfl (Nat.le_of_ble_eq_true rfl) rfl hdd hC kk

theorem k_139_46 {X : GX} {d : Nat} {h : Hp} {v1 : Nat} {v2 : Nat} {v3 : Int32} {s0 : Int32} {s1 : Int32} {s2 : Nat} (b0 : IA s2 s1) (o1 : sh v2 = (1, 3)) (b2 : IA v1 ((v3 * 3) + 2)) (kk : G X d 139 7 [some (.ref 31), some (.ref v1), some (.ref v2), some (.int (v3 + 1))] [] (wr (wr h s2 (Int32.toNatClampNeg s1) s0) v1 (Int32.toNatClampNeg ((v3 * 3) + 2)) ((wr h s2 (Int32.toNatClampNeg s1) s0) v2 2))) : G X d 139 46 [some (.ref 31), some (.ref v1), some (.ref v2), some (.int v3)] [.int s0, .int s1, .ref s2] h := by
  refine g_iast d_139_46 b0 ?_
  refine g_aload_n d_139_47 rfl rfl ?_
  refine g_iload_n d_139_48 rfl rfl ?_
  refine g_iconst (v := 3) d_139_49 (by decide) ?_
  refine g_imul d_139_50 ?_
  refine g_iconst (v := 2) d_139_51 (by decide) ?_
  refine g_iadd d_139_52 ?_
  refine g_aload_n d_139_53 rfl rfl ?_
  refine g_getf (ci := 3) (k := 2) d_139_54 wd_42 (Nat.le_of_ble_eq_true rfl) rfl o1 ?_
  refine g_iast d_139_57 b2 ?_
  refine g_iinc (w := 1) d_139_58 rfl (by decide) (Nat.le_of_ble_eq_true rfl) rfl ?_
  refine g_goto (tgt := 7) d_139_61 (by decide) ?_
  exact kk

theorem k_139_64 {X : GX} {d : Nat} {h : Hp} (hq : RtX X none h) : G X d 139 64 [none, none, none, none] [] h := by
  exact g_retv d_139_64 rfl hq

/-! 144 PlayedTruth$Ahead.firstWrongRow([II)I -/
theorem k_144_0 {X : GX} {d : Nat} {h : Hp} {v1 : Nat} {v2 : Int32} {d' : Nat} {Q' : Nat → Hp → Prop} (hdd : d' < d) (hC : CR d' 87 [.ref 31] h Q') (kk : ∀ x h', Q' x h' → G X d 144 4 [some (.ref 31), some (.ref v1), some (.int v2), none, none, none, none] [.ref x] h') : G X d 144 0 [some (.ref 31), some (.ref v1), some (.int v2), none, none, none, none] [] h := by
  refine g_aload_n d_144_0 rfl rfl ?_
  exact g_callVR (mj := 87) 1 [] [] d_144_1 wd_235 mo_87 mc_87 mv_87 rfl rfl rfl (Nat.le_of_ble_eq_true rfl) rfl hdd hC kk

theorem k_144_4 {X : GX} {d : Nat} {h : Hp} {v1 : Nat} {v2 : Int32} {s0 : Nat} (kk : G X d 144 8 [some (.ref 31), some (.ref v1), some (.int v2), some (.ref s0), some (.int 0), none, none] [] h) : G X d 144 4 [some (.ref 31), some (.ref v1), some (.int v2), none, none, none, none] [.ref s0] h := by
  refine g_astore_n d_144_4 rfl (Nat.le_of_ble_eq_true rfl) rfl ?_
  refine g_iconst (v := 0) d_144_5 (by decide) ?_
  refine g_istore d_144_6 (Nat.le_of_ble_eq_true rfl) rfl ?_
  exact kk

theorem k_144_8 {X : GX} {d : Nat} {h : Hp} {v1 : Nat} {v2 : Int32} {v3 : Nat} {v4 : Int32} (kt : v2 ≤ v4 → G X d 144 101 [none, none, none, none, none, none, none] [] h) (kf : ¬ v2 ≤ v4 → G X d 144 14 [some (.ref 31), some (.ref v1), some (.int v2), some (.ref v3), some (.int v4), none, none] [] h) : G X d 144 8 [some (.ref 31), some (.ref v1), some (.int v2), some (.ref v3), some (.int v4), none, none] [] h := by
  refine g_iload d_144_8 rfl ?_
  refine g_iload_n d_144_10 rfl rfl ?_
  exact g_icmp_ge (tgt := 101) d_144_11 (by decide) (fun q => g_mask [false, false, false, false, false, false, false] (kt q)) kf

theorem k_144_14 {X : GX} {d : Nat} {h : Hp} {v1 : Nat} {v2 : Int32} {v3 : Nat} {v4 : Int32} {d' : Nat} {Q' : Int32 → Hp → Prop} (b0 : IA v1 (v4 * 3)) (hdd : d' < d) (hC : CI d' 145 [.ref 1, .int (h v1 (Int32.toNatClampNeg (v4 * 3)))] h Q') (kk : ∀ x h', Q' x h' → G X d 144 31 [some (.ref 31), some (.ref v1), some (.int v2), some (.ref v3), some (.int v4), some (.int (h v1 (Int32.toNatClampNeg (v4 * 3)))), none] [.int x] h') : G X d 144 14 [some (.ref 31), some (.ref v1), some (.int v2), some (.ref v3), some (.int v4), none, none] [] h := by
  refine g_aload_n d_144_14 rfl rfl ?_
  refine g_iload d_144_15 rfl ?_
  refine g_iconst (v := 3) d_144_17 (by decide) ?_
  refine g_imul d_144_18 ?_
  refine g_iald d_144_19 b0 ?_
  refine g_istore d_144_20 (Nat.le_of_ble_eq_true rfl) rfl ?_
  refine g_aload_n d_144_22 rfl rfl ?_
  refine g_getf (ci := 1) (k := 0) d_144_23 wd_88 (Nat.le_of_ble_eq_true rfl) rfl rfl ?_
  refine g_iload d_144_26 rfl ?_
  exact g_callVI (mj := 145) 6 [.int (h v1 (Int32.toNatClampNeg (v4 * 3)))] [] d_144_28 wd_314 mo_145 mc_145 mv_145 rfl rfl rfl (Nat.le_of_ble_eq_true rfl) rfl hdd hC kk

theorem k_144_31 {X : GX} {d : Nat} {h : Hp} {v1 : Nat} {v2 : Int32} {v3 : Nat} {v4 : Int32} {v5 : Int32} {s0 : Int32} (kt : s0 = 0 → G X d 144 45 [none, none, none, none, some (.int v4), none, none] [] h) (kf : ¬ s0 = 0 → G X d 144 34 [some (.ref 31), some (.ref v1), some (.int v2), some (.ref v3), some (.int v4), some (.int v5), none] [] h) : G X d 144 31 [some (.ref 31), some (.ref v1), some (.int v2), some (.ref v3), some (.int v4), some (.int v5), none] [.int s0] h := by
  exact g_if_eq (tgt := 45) d_144_31 (by decide) (fun q => g_mask [false, false, false, false, true, false, false] (kt q)) kf

theorem k_144_34 {X : GX} {d : Nat} {h : Hp} {v1 : Nat} {v2 : Int32} {v3 : Nat} {v4 : Int32} {v5 : Int32} {d' : Nat} {Q' : Int32 → Hp → Prop} (hdd : d' < d) (hC : CI d' 38 [.ref 1, .ref v3] h Q') (kk : ∀ x h', Q' x h' → G X d 144 42 [some (.ref 31), some (.ref v1), some (.int v2), some (.ref v3), some (.int v4), some (.int v5), none] [.int x] h') : G X d 144 34 [some (.ref 31), some (.ref v1), some (.int v2), some (.ref v3), some (.int v4), some (.int v5), none] [] h := by
  refine g_aload_n d_144_34 rfl rfl ?_
  refine g_getf (ci := 1) (k := 0) d_144_35 wd_88 (Nat.le_of_ble_eq_true rfl) rfl rfl ?_
  refine g_aload_n d_144_38 rfl rfl ?_
  exact g_callVI (mj := 38) 6 [.ref v3] [] d_144_39 wd_238 mo_38 mc_38 mv_38 rfl rfl rfl (Nat.le_of_ble_eq_true rfl) rfl hdd hC kk

theorem k_144_42 {X : GX} {d : Nat} {h : Hp} {v1 : Nat} {v2 : Int32} {v3 : Nat} {v4 : Int32} {v5 : Int32} {s0 : Int32} (kt : s0 = 0 → G X d 144 50 [some (.ref 31), some (.ref v1), some (.int v2), some (.ref v3), some (.int v4), some (.int v5), none] [] h) (kf : ¬ s0 = 0 → G X d 144 45 [none, none, none, none, some (.int v4), none, none] [] h) : G X d 144 42 [some (.ref 31), some (.ref v1), some (.int v2), some (.ref v3), some (.int v4), some (.int v5), none] [.int s0] h := by
  exact g_if_eq (tgt := 50) d_144_42 (by decide) kt (fun q => g_mask [false, false, false, false, true, false, false] (kf q))

theorem k_144_45 {X : GX} {d : Nat} {h : Hp} {v4 : Int32} (hq : RtX X (some (.int (v4 + 1))) h) : G X d 144 45 [none, none, none, none, some (.int v4), none, none] [] h := by
  refine g_iload d_144_45 rfl ?_
  refine g_iconst (v := 1) d_144_47 (by decide) ?_
  refine g_iadd d_144_48 ?_
  exact g_reti d_144_49 rfl hq

theorem k_144_50 {X : GX} {d : Nat} {h : Hp} {v1 : Nat} {v2 : Int32} {v3 : Nat} {v4 : Int32} {v5 : Int32} {d' : Nat} {Q' : Int32 → Hp → Prop} (hdd : d' < d) (hC : CI d' 81 [.ref 1, .ref v3, .int v5] h Q') (kk : ∀ x h', Q' x h' → G X d 144 60 [some (.ref 31), some (.ref v1), some (.int v2), some (.ref v3), some (.int v4), none, none] [.int x] h') : G X d 144 50 [some (.ref 31), some (.ref v1), some (.int v2), some (.ref v3), some (.int v4), some (.int v5), none] [] h := by
  refine g_aload_n d_144_50 rfl rfl ?_
  refine g_getf (ci := 1) (k := 0) d_144_51 wd_88 (Nat.le_of_ble_eq_true rfl) rfl rfl ?_
  refine g_aload_n d_144_54 rfl rfl ?_
  refine g_iload d_144_55 rfl ?_
  exact g_callVI (mj := 81) 6 [.ref v3, .int v5] [] d_144_57 wd_240 mo_81 mc_81 mv_81 rfl rfl rfl (Nat.le_of_ble_eq_true rfl) rfl hdd hC (fun x h' q => g_mask [true, true, true, true, true, false, false] (kk x h' q))

theorem k_144_60 {X : GX} {d : Nat} {h : Hp} {v1 : Nat} {v2 : Int32} {v3 : Nat} {v4 : Int32} {s0 : Int32} (b0 : IA v1 ((v4 * 3) + 1)) (kt : ¬ (h v1 (Int32.toNatClampNeg ((v4 * 3) + 1))) = s0 → G X d 144 90 [none, none, none, none, some (.int v4), none, none] [] h) (kf : (h v1 (Int32.toNatClampNeg ((v4 * 3) + 1))) = s0 → G X d 144 75 [some (.ref 31), some (.ref v1), some (.int v2), some (.ref v3), some (.int v4), none, none] [] h) : G X d 144 60 [some (.ref 31), some (.ref v1), some (.int v2), some (.ref v3), some (.int v4), none, none] [.int s0] h := by
  refine g_istore d_144_60 (Nat.le_of_ble_eq_true rfl) rfl ?_
  refine g_aload_n d_144_62 rfl rfl ?_
  refine g_iload d_144_63 rfl ?_
  refine g_iconst (v := 3) d_144_65 (by decide) ?_
  refine g_imul d_144_66 ?_
  refine g_iconst (v := 1) d_144_67 (by decide) ?_
  refine g_iadd d_144_68 ?_
  refine g_iald d_144_69 b0 ?_
  refine g_iload d_144_70 rfl ?_
  exact g_icmp_ne (tgt := 90) d_144_72 (by decide) (fun q => g_mask [false, false, false, false, true, false, false] (kt q)) (fun q => g_mask [true, true, true, true, true, false, false] (kf q))

theorem k_144_75 {X : GX} {d : Nat} {h : Hp} {v1 : Nat} {v2 : Int32} {v3 : Nat} {v4 : Int32} (b0 : IA v1 ((v4 * 3) + 2)) (o1 : sh v3 = (1, 3)) (kt : (h v1 (Int32.toNatClampNeg ((v4 * 3) + 2))) = (h v3 2) → G X d 144 95 [some (.ref 31), some (.ref v1), some (.int v2), some (.ref v3), some (.int v4), none, none] [] h) (kf : ¬ (h v1 (Int32.toNatClampNeg ((v4 * 3) + 2))) = (h v3 2) → G X d 144 90 [none, none, none, none, some (.int v4), none, none] [] h) : G X d 144 75 [some (.ref 31), some (.ref v1), some (.int v2), some (.ref v3), some (.int v4), none, none] [] h := by
  refine g_aload_n d_144_75 rfl rfl ?_
  refine g_iload d_144_76 rfl ?_
  refine g_iconst (v := 3) d_144_78 (by decide) ?_
  refine g_imul d_144_79 ?_
  refine g_iconst (v := 2) d_144_80 (by decide) ?_
  refine g_iadd d_144_81 ?_
  refine g_iald d_144_82 b0 ?_
  refine g_aload_n d_144_83 rfl rfl ?_
  refine g_getf (ci := 3) (k := 2) d_144_84 wd_42 (Nat.le_of_ble_eq_true rfl) rfl o1 ?_
  exact g_icmp_eq (tgt := 95) d_144_87 (by decide) kt (fun q => g_mask [false, false, false, false, true, false, false] (kf q))

theorem k_144_90 {X : GX} {d : Nat} {h : Hp} {v4 : Int32} (hq : RtX X (some (.int (v4 + 1))) h) : G X d 144 90 [none, none, none, none, some (.int v4), none, none] [] h := by
  refine g_iload d_144_90 rfl ?_
  refine g_iconst (v := 1) d_144_92 (by decide) ?_
  refine g_iadd d_144_93 ?_
  exact g_reti d_144_94 rfl hq

theorem k_144_95 {X : GX} {d : Nat} {h : Hp} {v1 : Nat} {v2 : Int32} {v3 : Nat} {v4 : Int32} (kk : G X d 144 8 [some (.ref 31), some (.ref v1), some (.int v2), some (.ref v3), some (.int (v4 + 1)), none, none] [] h) : G X d 144 95 [some (.ref 31), some (.ref v1), some (.int v2), some (.ref v3), some (.int v4), none, none] [] h := by
  refine g_iinc (w := 1) d_144_95 rfl (by decide) (Nat.le_of_ble_eq_true rfl) rfl ?_
  refine g_goto (tgt := 8) d_144_98 (by decide) ?_
  exact kk

theorem k_144_101 {X : GX} {d : Nat} {h : Hp} (hq : RtX X (some (.int 0)) h) : G X d 144 101 [none, none, none, none, none, none, none] [] h := by
  refine g_iconst (v := 0) d_144_101 (by decide) ?_
  exact g_reti d_144_102 rfl hq

/-! 156 PlayedTruth$Ahead.worthOfItems(LPlayedTruth$Host;III)I -/
theorem k_156_0 {X : GX} {d : Nat} {h : Hp} {v1 : Nat} {v2 : Int32} {v3 : Int32} {v4 : Int32} {d' : Nat} {Q' : Nat → Hp → Prop} (hdd : d' < d) (hC : CR d' 87 [.ref 31] h Q') (kk : ∀ x h', Q' x h' → G X d 156 4 [some (.ref 31), some (.ref v1), some (.int v2), some (.int v3), some (.int v4), none, none, none] [.ref x] h') : G X d 156 0 [some (.ref 31), some (.ref v1), some (.int v2), some (.int v3), some (.int v4), none, none, none] [] h := by
  refine g_aload_n d_156_0 rfl rfl ?_
  exact g_callVR (mj := 87) 1 [] [] d_156_1 wd_235 mo_87 mc_87 mv_87 rfl rfl rfl (Nat.le_of_ble_eq_true rfl) rfl hdd hC kk

theorem k_156_4 {X : GX} {d : Nat} {h : Hp} {v1 : Nat} {v2 : Int32} {v3 : Int32} {v4 : Int32} {s0 : Nat} (kk : G X d 156 9 [some (.ref 31), some (.ref v1), some (.int v2), some (.int v3), some (.int v4), some (.ref s0), some (.int 0), none] [] h) : G X d 156 4 [some (.ref 31), some (.ref v1), some (.int v2), some (.int v3), some (.int v4), none, none, none] [.ref s0] h := by
  refine g_astore d_156_4 (Nat.le_of_ble_eq_true rfl) rfl ?_
  refine g_iconst (v := 0) d_156_6 (by decide) ?_
  refine g_istore d_156_7 (Nat.le_of_ble_eq_true rfl) rfl ?_
  exact kk

theorem k_156_9 {X : GX} {d : Nat} {h : Hp} {v1 : Nat} {v2 : Int32} {v3 : Int32} {v4 : Int32} {v5 : Nat} {v6 : Int32} (kt : v4 ≤ v6 → G X d 156 89 [some (.ref 31), none, none, none, none, some (.ref v5), none, none] [] h) (kf : ¬ v4 ≤ v6 → G X d 156 16 [some (.ref 31), some (.ref v1), some (.int v2), some (.int v3), some (.int v4), some (.ref v5), some (.int v6), none] [] h) : G X d 156 9 [some (.ref 31), some (.ref v1), some (.int v2), some (.int v3), some (.int v4), some (.ref v5), some (.int v6), none] [] h := by
  refine g_iload d_156_9 rfl ?_
  refine g_iload d_156_11 rfl ?_
  exact g_icmp_ge (tgt := 89) d_156_13 (by decide) (fun q => g_mask [true, false, false, false, false, true, false, false] (kt q)) kf

theorem k_156_16 {X : GX} {d : Nat} {h : Hp} {v1 : Nat} {v2 : Int32} {v3 : Int32} {v4 : Int32} {v5 : Nat} {v6 : Int32} {d' : Nat} {Q' : Int32 → Hp → Prop} (o0 : sh v1 = (1, 2)) (hdd : d' < d) (hC : CI d' 150 [.ref v1, .int v2, .int (v3 + v6)] h Q') (kk : ∀ x h', Q' x h' → G X d 156 25 [some (.ref 31), some (.ref v1), some (.int v2), some (.int v3), some (.int v4), some (.ref v5), some (.int v6), none] [.int x] h') : G X d 156 16 [some (.ref 31), some (.ref v1), some (.int v2), some (.int v3), some (.int v4), some (.ref v5), some (.int v6), none] [] h := by
  refine g_aload_n d_156_16 rfl rfl ?_
  refine g_iload_n d_156_17 rfl rfl ?_
  refine g_iload_n d_156_18 rfl rfl ?_
  refine g_iload d_156_19 rfl ?_
  refine g_iadd d_156_21 ?_
  exact g_callVI (mj := 150) 2 [.int v2, .int (v3 + v6)] [] d_156_22 wd_327 mo_150 mc_150 mv_150 rfl rfl rfl (Nat.le_of_ble_eq_true rfl) o0 hdd hC kk

theorem k_156_25 {X : GX} {d : Nat} {h : Hp} {v1 : Nat} {v2 : Int32} {v3 : Int32} {v4 : Int32} {v5 : Nat} {v6 : Int32} {s0 : Int32} (kt : ¬ s0 = 0 → G X d 156 31 [some (.ref 31), some (.ref v1), some (.int v2), some (.int v3), some (.int v4), some (.ref v5), some (.int v6), none] [] h) (kf : s0 = 0 → G X d 156 28 [none, none, none, none, none, none, none, none] [] h) : G X d 156 25 [some (.ref 31), some (.ref v1), some (.int v2), some (.int v3), some (.int v4), some (.ref v5), some (.int v6), none] [.int s0] h := by
  exact g_if_ne (tgt := 31) d_156_25 (by decide) kt (fun q => g_mask [false, false, false, false, false, false, false, false] (kf q))

theorem k_156_28 {X : GX} {d : Nat} {h : Hp} (hq : RtX X (some (.int ((-12)))) h) : G X d 156 28 [none, none, none, none, none, none, none, none] [] h := by
  refine g_bipush (v := (-12)) d_156_28 (by decide) ?_
  exact g_reti d_156_30 rfl hq

theorem k_156_31 {X : GX} {d : Nat} {h : Hp} {v1 : Nat} {v2 : Int32} {v3 : Int32} {v4 : Int32} {v5 : Nat} {v6 : Int32} {d' : Nat} {Q' : Int32 → Hp → Prop} (o0 : sh v1 = (1, 2)) (b1 : vp_in v2 4) (b2 : IA (54 + Int32.toNatClampNeg v2) (v3 + v6)) (hdd : d' < d) (hC : CI d' 145 [.ref 1, .int (h (54 + Int32.toNatClampNeg v2) (Int32.toNatClampNeg (v3 + v6)))] h Q') (kk : ∀ x h', Q' x h' → G X d 156 53 [some (.ref 31), some (.ref v1), some (.int v2), some (.int v3), some (.int v4), some (.ref v5), some (.int v6), some (.int (h (54 + Int32.toNatClampNeg v2) (Int32.toNatClampNeg (v3 + v6))))] [.int x] h') : G X d 156 31 [some (.ref 31), some (.ref v1), some (.int v2), some (.int v3), some (.int v4), some (.ref v5), some (.int v6), none] [] h := by
  refine g_aload_n d_156_31 rfl rfl ?_
  refine g_getf (ci := 2) (k := 2) d_156_32 wd_112 (Nat.le_of_ble_eq_true rfl) rfl o0 ?_
  refine g_iload_n d_156_35 rfl rfl ?_
  refine g_aald (tt := 1) d_156_36 (by decide) rfl b1 ?_
  refine g_iload_n d_156_37 rfl rfl ?_
  refine g_iload d_156_38 rfl ?_
  refine g_iadd d_156_40 ?_
  refine g_iald d_156_41 b2 ?_
  refine g_istore d_156_42 (Nat.le_of_ble_eq_true rfl) rfl ?_
  refine g_aload_n d_156_44 rfl rfl ?_
  refine g_getf (ci := 1) (k := 0) d_156_45 wd_88 (Nat.le_of_ble_eq_true rfl) rfl rfl ?_
  refine g_iload d_156_48 rfl ?_
  exact g_callVI (mj := 145) 6 [.int (h (54 + Int32.toNatClampNeg v2) (Int32.toNatClampNeg (v3 + v6)))] [] d_156_50 wd_314 mo_145 mc_145 mv_145 rfl rfl rfl (Nat.le_of_ble_eq_true rfl) rfl hdd hC kk

theorem k_156_53 {X : GX} {d : Nat} {h : Hp} {v1 : Nat} {v2 : Int32} {v3 : Int32} {v4 : Int32} {v5 : Nat} {v6 : Int32} {v7 : Int32} {s0 : Int32} (kt : s0 = 0 → G X d 156 68 [none, none, none, none, none, none, none, none] [] h) (kf : ¬ s0 = 0 → G X d 156 56 [some (.ref 31), some (.ref v1), some (.int v2), some (.int v3), some (.int v4), some (.ref v5), some (.int v6), some (.int v7)] [] h) : G X d 156 53 [some (.ref 31), some (.ref v1), some (.int v2), some (.int v3), some (.int v4), some (.ref v5), some (.int v6), some (.int v7)] [.int s0] h := by
  exact g_if_eq (tgt := 68) d_156_53 (by decide) (fun q => g_mask [false, false, false, false, false, false, false, false] (kt q)) kf

theorem k_156_56 {X : GX} {d : Nat} {h : Hp} {v1 : Nat} {v2 : Int32} {v3 : Int32} {v4 : Int32} {v5 : Nat} {v6 : Int32} {v7 : Int32} {d' : Nat} {Q' : Int32 → Hp → Prop} (hdd : d' < d) (hC : CI d' 38 [.ref 1, .ref v5] h Q') (kk : ∀ x h', Q' x h' → G X d 156 65 [some (.ref 31), some (.ref v1), some (.int v2), some (.int v3), some (.int v4), some (.ref v5), some (.int v6), some (.int v7)] [.int x] h') : G X d 156 56 [some (.ref 31), some (.ref v1), some (.int v2), some (.int v3), some (.int v4), some (.ref v5), some (.int v6), some (.int v7)] [] h := by
  refine g_aload_n d_156_56 rfl rfl ?_
  refine g_getf (ci := 1) (k := 0) d_156_57 wd_88 (Nat.le_of_ble_eq_true rfl) rfl rfl ?_
  refine g_aload d_156_60 rfl ?_
  exact g_callVI (mj := 38) 6 [.ref v5] [] d_156_62 wd_238 mo_38 mc_38 mv_38 rfl rfl rfl (Nat.le_of_ble_eq_true rfl) rfl hdd hC kk

theorem k_156_65 {X : GX} {d : Nat} {h : Hp} {v1 : Nat} {v2 : Int32} {v3 : Int32} {v4 : Int32} {v5 : Nat} {v6 : Int32} {v7 : Int32} {s0 : Int32} (kt : s0 = 0 → G X d 156 71 [some (.ref 31), some (.ref v1), some (.int v2), some (.int v3), some (.int v4), some (.ref v5), some (.int v6), some (.int v7)] [] h) (kf : ¬ s0 = 0 → G X d 156 68 [none, none, none, none, none, none, none, none] [] h) : G X d 156 65 [some (.ref 31), some (.ref v1), some (.int v2), some (.int v3), some (.int v4), some (.ref v5), some (.int v6), some (.int v7)] [.int s0] h := by
  exact g_if_eq (tgt := 71) d_156_65 (by decide) kt (fun q => g_mask [false, false, false, false, false, false, false, false] (kf q))

theorem k_156_68 {X : GX} {d : Nat} {h : Hp} (hq : RtX X (some (.int ((-4)))) h) : G X d 156 68 [none, none, none, none, none, none, none, none] [] h := by
  refine g_bipush (v := (-4)) d_156_68 (by decide) ?_
  exact g_reti d_156_70 rfl hq

theorem k_156_71 {X : GX} {d : Nat} {h : Hp} {v1 : Nat} {v2 : Int32} {v3 : Int32} {v4 : Int32} {v5 : Nat} {v6 : Int32} {v7 : Int32} {d' : Nat} {Q' : Int32 → Hp → Prop} (hdd : d' < d) (hC : CI d' 81 [.ref 1, .ref v5, .int v7] h Q') (kk : ∀ x h', Q' x h' → G X d 156 82 [some (.ref 31), some (.ref v1), some (.int v2), some (.int v3), some (.int v4), some (.ref v5), some (.int v6), none] [.int x] h') : G X d 156 71 [some (.ref 31), some (.ref v1), some (.int v2), some (.int v3), some (.int v4), some (.ref v5), some (.int v6), some (.int v7)] [] h := by
  refine g_aload_n d_156_71 rfl rfl ?_
  refine g_getf (ci := 1) (k := 0) d_156_72 wd_88 (Nat.le_of_ble_eq_true rfl) rfl rfl ?_
  refine g_aload d_156_75 rfl ?_
  refine g_iload d_156_77 rfl ?_
  exact g_callVI (mj := 81) 6 [.ref v5, .int v7] [] d_156_79 wd_240 mo_81 mc_81 mv_81 rfl rfl rfl (Nat.le_of_ble_eq_true rfl) rfl hdd hC (fun x h' q => g_mask [true, true, true, true, true, true, true, false] (kk x h' q))

theorem k_156_82 {X : GX} {d : Nat} {h : Hp} {v1 : Nat} {v2 : Int32} {v3 : Int32} {v4 : Int32} {v5 : Nat} {v6 : Int32} {s0 : Int32} (kk : G X d 156 9 [some (.ref 31), some (.ref v1), some (.int v2), some (.int v3), some (.int v4), some (.ref v5), some (.int (v6 + 1)), none] [] h) : G X d 156 82 [some (.ref 31), some (.ref v1), some (.int v2), some (.int v3), some (.int v4), some (.ref v5), some (.int v6), none] [.int s0] h := by
  refine g_pop d_156_82 rfl ?_
  refine g_iinc (w := 1) d_156_83 rfl (by decide) (Nat.le_of_ble_eq_true rfl) rfl ?_
  refine g_goto (tgt := 9) d_156_86 (by decide) ?_
  exact kk

theorem k_156_89 {X : GX} {d : Nat} {h : Hp} {v5 : Nat} (o0 : sh v5 = (1, 3)) (hq : RtX X (some (.int ((h v5 4) - (h 13 4)))) h) : G X d 156 89 [some (.ref 31), none, none, none, none, some (.ref v5), none, none] [] h := by
  refine g_aload d_156_89 rfl ?_
  refine g_getf (ci := 3) (k := 4) d_156_91 wd_49 (Nat.le_of_ble_eq_true rfl) rfl o0 ?_
  refine g_aload_n d_156_94 rfl rfl ?_
  refine g_getf (ci := 1) (k := 1) d_156_95 wd_89 (Nat.le_of_ble_eq_true rfl) rfl rfl ?_
  refine g_getf (ci := 3) (k := 4) d_156_98 wd_49 (Nat.le_of_ble_eq_true rfl) rfl rfl ?_
  refine g_isub d_156_101 ?_
  exact g_reti d_156_102 rfl hq

