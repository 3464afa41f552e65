/-! 124 PlayedTruth$Strangers.add(IIII)I -/
theorem k_124_0 {X : GX} {d : Nat} {h : Hp} {v1 : Int32} {v2 : Int32} {v3 : Int32} {v4 : Int32} (kt : (h 16 4) < 6 → G X d 124 12 [some (.ref 16), some (.int v1), some (.int v2), some (.int v3), some (.int v4)] [] h) (kf : ¬ (h 16 4) < 6 → G X d 124 9 [none, none, none, none, none] [] h) : G X d 124 0 [some (.ref 16), some (.int v1), some (.int v2), some (.int v3), some (.int v4)] [] h := by
  refine g_aload_n d_124_0 rfl rfl ?_
  refine g_getf (ci := 7) (k := 4) d_124_1 wd_61 (Nat.le_of_ble_eq_true rfl) rfl rfl ?_
  refine g_bipush (v := 6) d_124_4 (by decide) ?_
  exact g_icmp_lt (tgt := 12) d_124_6 (by decide) kt (fun q => g_mask [false, false, false, false, false] (kf q))

theorem k_124_9 {X : GX} {d : Nat} {h : Hp} (hq : RtX X (some (.int ((-2)))) h) : G X d 124 9 [none, none, none, none, none] [] h := by
  refine g_bipush (v := (-2)) d_124_9 (by decide) ?_
  exact g_reti d_124_11 rfl hq

theorem k_124_12 {X : GX} {d : Nat} {h : Hp} {v1 : Int32} {v2 : Int32} {v3 : Int32} {v4 : Int32} (b0 : IA 17 (h 16 4)) (b1 : IA 18 ((wr h 17 (Int32.toNatClampNeg (h 16 4)) v1) 16 4)) (b2 : IA 19 ((wr (wr h 17 (Int32.toNatClampNeg (h 16 4)) v1) 18 (Int32.toNatClampNeg ((wr h 17 (Int32.toNatClampNeg (h 16 4)) v1) 16 4)) v2) 16 4)) (b3 : IA 20 ((wr (wr (wr h 17 (Int32.toNatClampNeg (h 16 4)) v1) 18 (Int32.toNatClampNeg ((wr h 17 (Int32.toNatClampNeg (h 16 4)) v1) 16 4)) v2) 19 (Int32.toNatClampNeg ((wr (wr h 17 (Int32.toNatClampNeg (h 16 4)) v1) 18 (Int32.toNatClampNeg ((wr h 17 (Int32.toNatClampNeg (h 16 4)) v1) 16 4)) v2) 16 4)) v3) 16 4)) (hq : RtX X (some (.int ((wr (wr (wr (wr h 17 (Int32.toNatClampNeg (h 16 4)) v1) 18 (Int32.toNatClampNeg ((wr h 17 (Int32.toNatClampNeg (h 16 4)) v1) 16 4)) v2) 19 (Int32.toNatClampNeg ((wr (wr h 17 (Int32.toNatClampNeg (h 16 4)) v1) 18 (Int32.toNatClampNeg ((wr h 17 (Int32.toNatClampNeg (h 16 4)) v1) 16 4)) v2) 16 4)) v3) 20 (Int32.toNatClampNeg ((wr (wr (wr h 17 (Int32.toNatClampNeg (h 16 4)) v1) 18 (Int32.toNatClampNeg ((wr h 17 (Int32.toNatClampNeg (h 16 4)) v1) 16 4)) v2) 19 (Int32.toNatClampNeg ((wr (wr h 17 (Int32.toNatClampNeg (h 16 4)) v1) 18 (Int32.toNatClampNeg ((wr h 17 (Int32.toNatClampNeg (h 16 4)) v1) 16 4)) v2) 16 4)) v3) 16 4)) v4) 16 4))) (wr (wr (wr (wr (wr h 17 (Int32.toNatClampNeg (h 16 4)) v1) 18 (Int32.toNatClampNeg ((wr h 17 (Int32.toNatClampNeg (h 16 4)) v1) 16 4)) v2) 19 (Int32.toNatClampNeg ((wr (wr h 17 (Int32.toNatClampNeg (h 16 4)) v1) 18 (Int32.toNatClampNeg ((wr h 17 (Int32.toNatClampNeg (h 16 4)) v1) 16 4)) v2) 16 4)) v3) 20 (Int32.toNatClampNeg ((wr (wr (wr h 17 (Int32.toNatClampNeg (h 16 4)) v1) 18 (Int32.toNatClampNeg ((wr h 17 (Int32.toNatClampNeg (h 16 4)) v1) 16 4)) v2) 19 (Int32.toNatClampNeg ((wr (wr h 17 (Int32.toNatClampNeg (h 16 4)) v1) 18 (Int32.toNatClampNeg ((wr h 17 (Int32.toNatClampNeg (h 16 4)) v1) 16 4)) v2) 16 4)) v3) 16 4)) v4) 16 4 (((wr (wr (wr (wr h 17 (Int32.toNatClampNeg (h 16 4)) v1) 18 (Int32.toNatClampNeg ((wr h 17 (Int32.toNatClampNeg (h 16 4)) v1) 16 4)) v2) 19 (Int32.toNatClampNeg ((wr (wr h 17 (Int32.toNatClampNeg (h 16 4)) v1) 18 (Int32.toNatClampNeg ((wr h 17 (Int32.toNatClampNeg (h 16 4)) v1) 16 4)) v2) 16 4)) v3) 20 (Int32.toNatClampNeg ((wr (wr (wr h 17 (Int32.toNatClampNeg (h 16 4)) v1) 18 (Int32.toNatClampNeg ((wr h 17 (Int32.toNatClampNeg (h 16 4)) v1) 16 4)) v2) 19 (Int32.toNatClampNeg ((wr (wr h 17 (Int32.toNatClampNeg (h 16 4)) v1) 18 (Int32.toNatClampNeg ((wr h 17 (Int32.toNatClampNeg (h 16 4)) v1) 16 4)) v2) 16 4)) v3) 16 4)) v4) 16 4) + 1))) : G X d 124 12 [some (.ref 16), some (.int v1), some (.int v2), some (.int v3), some (.int v4)] [] h := by
  refine g_aload_n d_124_12 rfl rfl ?_
  refine g_getf (ci := 7) (k := 0) d_124_13 wd_57 (Nat.le_of_ble_eq_true rfl) rfl rfl ?_
  refine g_aload_n d_124_16 rfl rfl ?_
  refine g_getf (ci := 7) (k := 4) d_124_17 wd_61 (Nat.le_of_ble_eq_true rfl) rfl rfl ?_
  refine g_iload_n d_124_20 rfl rfl ?_
  refine g_iast d_124_21 b0 ?_
  refine g_aload_n d_124_22 rfl rfl ?_
  refine g_getf (ci := 7) (k := 1) d_124_23 wd_58 (Nat.le_of_ble_eq_true rfl) rfl rfl ?_
  refine g_aload_n d_124_26 rfl rfl ?_
  refine g_getf (ci := 7) (k := 4) d_124_27 wd_61 (Nat.le_of_ble_eq_true rfl) rfl rfl ?_
  refine g_iload_n d_124_30 rfl rfl ?_
  refine g_iast d_124_31 b1 ?_
  refine g_aload_n d_124_32 rfl rfl ?_
  refine g_getf (ci := 7) (k := 2) d_124_33 wd_59 (Nat.le_of_ble_eq_true rfl) rfl rfl ?_
  refine g_aload_n d_124_36 rfl rfl ?_
  refine g_getf (ci := 7) (k := 4) d_124_37 wd_61 (Nat.le_of_ble_eq_true rfl) rfl rfl ?_
  refine g_iload_n d_124_40 rfl rfl ?_
  refine g_iast d_124_41 b2 ?_
  refine g_aload_n d_124_42 rfl rfl ?_
  refine g_getf (ci := 7) (k := 3) d_124_43 wd_60 (Nat.le_of_ble_eq_true rfl) rfl rfl ?_
  refine g_aload_n d_124_46 rfl rfl ?_
  refine g_getf (ci := 7) (k := 4) d_124_47 wd_61 (Nat.le_of_ble_eq_true rfl) rfl rfl ?_
  refine g_iload d_124_50 rfl ?_
  refine g_iast d_124_52 b3 ?_
  refine g_aload_n d_124_53 rfl rfl ?_
  refine g_dup d_124_54 rfl ?_
  refine g_getf (ci := 7) (k := 4) d_124_55 wd_61 (Nat.le_of_ble_eq_true rfl) rfl rfl ?_
  refine g_dup_x1 d_124_58 rfl rfl ?_
  refine g_iconst (v := 1) d_124_59 (by decide) ?_
  refine g_iadd d_124_60 ?_
  refine g_putf (ci := 7) (k := 4) d_124_61 wd_61 (Nat.le_of_ble_eq_true rfl) (Nat.le_of_ble_eq_true rfl) rfl rfl (Or.inl ⟨rfl, rfl⟩) rfl ?_
  exact g_reti d_124_64 rfl hq

/-! 127 PlayedTruth$Strangers.lookForFits(LPlayedTruth$Stage;)V -/
theorem k_127_0 {X : GX} {d : Nat} {h : Hp} {v1 : Nat} {d' : Nat} {Q' : Int32 → Hp → Prop} (hdd : d' < d) (hC : CI d' 128 [.ref 16] (wr (wr h 16 5 0) 16 9 0) Q') (kk : ∀ x h', Q' x h' → G X d 127 14 [some (.ref 16), some (.ref v1), none, none, none, none, none] [.int x] h') : G X d 127 0 [some (.ref 16), some (.ref v1), none, none, none, none, none] [] h := by
  refine g_aload_n d_127_0 rfl rfl ?_
  refine g_iconst (v := 0) d_127_1 (by decide) ?_
  refine g_putf (ci := 7) (k := 5) d_127_2 wd_63 (Nat.le_of_ble_eq_true rfl) (Nat.le_of_ble_eq_true rfl) rfl rfl (Or.inl ⟨rfl, rfl⟩) rfl ?_
  refine g_aload_n d_127_5 rfl rfl ?_
  refine g_iconst (v := 0) d_127_6 (by decide) ?_
  refine g_putf (ci := 7) (k := 9) d_127_7 wd_71 (Nat.le_of_ble_eq_true rfl) (Nat.le_of_ble_eq_true rfl) rfl rfl (Or.inl ⟨rfl, rfl⟩) rfl ?_
  refine g_aload_n d_127_10 rfl rfl ?_
  exact g_callVI (mj := 128) 7 [] [] d_127_11 wd_288 mo_128 mc_128 mv_128 rfl rfl rfl (Nat.le_of_ble_eq_true rfl) rfl hdd hC kk

theorem k_127_14 {X : GX} {d : Nat} {h : Hp} {v1 : Nat} {s0 : Int32} (kk : G X d 127 17 [some (.ref 16), some (.ref v1), some (.int s0), some (.int 1), none, none, none] [] h) : G X d 127 14 [some (.ref 16), some (.ref v1), none, none, none, none, none] [.int s0] h := by
  refine g_istore_n d_127_14 rfl (Nat.le_of_ble_eq_true rfl) rfl ?_
  refine g_iconst (v := 1) d_127_15 (by decide) ?_
  refine g_istore_n d_127_16 rfl (Nat.le_of_ble_eq_true rfl) rfl ?_
  exact kk

theorem k_127_17 {X : GX} {d : Nat} {h : Hp} {v1 : Nat} {v2 : Int32} {v3 : Int32} (kt : 5 < v3 → G X d 127 107 [none, none, none, none, none, none, none] [] h) (kf : ¬ 5 < v3 → G X d 127 22 [some (.ref 16), some (.ref v1), some (.int v2), some (.int v3), none, none, none] [] h) : G X d 127 17 [some (.ref 16), some (.ref v1), some (.int v2), some (.int v3), none, none, none] [] h := by
  refine g_iload_n d_127_17 rfl rfl ?_
  refine g_iconst (v := 5) d_127_18 (by decide) ?_
  exact g_icmp_gt (tgt := 107) d_127_19 (by decide) (fun q => g_mask [false, false, false, false, false, false, false] (kt q)) kf

theorem k_127_22 {X : GX} {d : Nat} {h : Hp} {v1 : Nat} {v2 : Int32} {v3 : Int32} (kk : G X d 127 25 [some (.ref 16), some (.ref v1), some (.int v2), some (.int v3), some (.int 0), none, none] [] h) : G X d 127 22 [some (.ref 16), some (.ref v1), some (.int v2), some (.int v3), none, none, none] [] h := by
  refine g_iconst (v := 0) d_127_22 (by decide) ?_
  refine g_istore d_127_23 (Nat.le_of_ble_eq_true rfl) rfl ?_
  exact kk

theorem k_127_25 {X : GX} {d : Nat} {h : Hp} {v1 : Nat} {v2 : Int32} {v3 : Int32} {v4 : Int32} (kt : 9 < v4 → G X d 127 101 [some (.ref 16), some (.ref v1), some (.int v2), some (.int v3), none, none, none] [] h) (kf : ¬ 9 < v4 → G X d 127 32 [some (.ref 16), some (.ref v1), some (.int v2), some (.int v3), some (.int v4), none, none] [] h) : G X d 127 25 [some (.ref 16), some (.ref v1), some (.int v2), some (.int v3), some (.int v4), none, none] [] h := by
  refine g_iload d_127_25 rfl ?_
  refine g_bipush (v := 9) d_127_27 (by decide) ?_
  exact g_icmp_gt (tgt := 101) d_127_29 (by decide) (fun q => g_mask [true, true, true, true, false, false, false] (kt q)) kf

theorem k_127_32 {X : GX} {d : Nat} {h : Hp} {v1 : Nat} {v2 : Int32} {v3 : Int32} {v4 : Int32} (kk : G X d 127 35 [some (.ref 16), some (.ref v1), some (.int v2), some (.int v3), some (.int v4), some (.int 0), none] [] h) : G X d 127 32 [some (.ref 16), some (.ref v1), some (.int v2), some (.int v3), some (.int v4), none, none] [] h := by
  refine g_iconst (v := 0) d_127_32 (by decide) ?_
  refine g_istore d_127_33 (Nat.le_of_ble_eq_true rfl) rfl ?_
  exact kk

theorem k_127_35 {X : GX} {d : Nat} {h : Hp} {v1 : Nat} {v2 : Int32} {v3 : Int32} {v4 : Int32} {v5 : Int32} (kt : 54 < v5 → G X d 127 95 [some (.ref 16), some (.ref v1), some (.int v2), some (.int v3), some (.int v4), none, none] [] h) (kf : ¬ 54 < v5 → G X d 127 42 [some (.ref 16), some (.ref v1), some (.int v2), some (.int v3), some (.int v4), some (.int v5), none] [] h) : G X d 127 35 [some (.ref 16), some (.ref v1), some (.int v2), some (.int v3), some (.int v4), some (.int v5), none] [] h := by
  refine g_iload d_127_35 rfl ?_
  refine g_bipush (v := 54) d_127_37 (by decide) ?_
  exact g_icmp_gt (tgt := 95) d_127_39 (by decide) (fun q => g_mask [true, true, true, true, true, false, false] (kt q)) kf

theorem k_127_42 {X : GX} {d : Nat} {h : Hp} {v1 : Nat} {v2 : Int32} {v3 : Int32} {v4 : Int32} {v5 : Int32} {d' : Nat} {Q' : Int32 → Hp → Prop} (hdd : d' < d) (hC : CI d' 129 [.ref 16, .ref v1, .int v2, .int v3, .int v4, .int v5] h Q') (kk : ∀ x h', Q' x h' → G X d 127 53 [some (.ref 16), some (.ref v1), some (.int v2), some (.int v3), some (.int v4), some (.int v5), none] [.int x] h') : G X d 127 42 [some (.ref 16), some (.ref v1), some (.int v2), some (.int v3), some (.int v4), some (.int v5), none] [] h := by
  refine g_aload_n d_127_42 rfl rfl ?_
  refine g_aload_n d_127_43 rfl rfl ?_
  refine g_iload_n d_127_44 rfl rfl ?_
  refine g_iload_n d_127_45 rfl rfl ?_
  refine g_iload d_127_46 rfl ?_
  refine g_iload d_127_48 rfl ?_
  exact g_callVI (mj := 129) 7 [.ref v1, .int v2, .int v3, .int v4, .int v5] [] d_127_50 wd_290 mo_129 mc_129 mv_129 rfl rfl rfl (Nat.le_of_ble_eq_true rfl) rfl hdd hC kk

theorem k_127_53 {X : GX} {d : Nat} {h : Hp} {v1 : Nat} {v2 : Int32} {v3 : Int32} {v4 : Int32} {v5 : Int32} {s0 : Int32} (kt : ¬ s0 = 0 → G X d 127 69 [some (.ref 16), some (.ref v1), some (.int v2), some (.int v3), some (.int v4), some (.int v5), some (.int s0)] [] h) (kf : s0 = 0 → G X d 127 60 [some (.ref 16), some (.ref v1), some (.int v2), some (.int v3), some (.int v4), some (.int v5), some (.int s0)] [] h) : G X d 127 53 [some (.ref 16), some (.ref v1), some (.int v2), some (.int v3), some (.int v4), some (.int v5), none] [.int s0] h := by
  refine g_istore d_127_53 (Nat.le_of_ble_eq_true rfl) rfl ?_
  refine g_iload d_127_55 rfl ?_
  exact g_if_ne (tgt := 69) d_127_57 (by decide) kt kf

theorem k_127_60 {X : GX} {d : Nat} {h : Hp} {v1 : Nat} {v2 : Int32} {v3 : Int32} {v4 : Int32} {v5 : Int32} {v6 : Int32} {d' : Nat} {Q' : Hp → Prop} (hdd : d' < d) (hC : CV d' 131 [.ref 16, .int v3, .int v4, .int v5] h Q') (kk : ∀ h', Q' h' → G X d 127 69 [some (.ref 16), some (.ref v1), some (.int v2), some (.int v3), some (.int v4), some (.int v5), some (.int v6)] [] h') : G X d 127 60 [some (.ref 16), some (.ref v1), some (.int v2), some (.int v3), some (.int v4), some (.int v5), some (.int v6)] [] h := by
  refine g_aload_n d_127_60 rfl rfl ?_
  refine g_iload_n d_127_61 rfl rfl ?_
  refine g_iload d_127_62 rfl ?_
  refine g_iload d_127_64 rfl ?_
  exact g_callVV (mj := 131) 7 [.int v3, .int v4, .int v5] [] d_127_66 wd_296 mo_131 mc_131 mv_131 rfl rfl rfl (Nat.le_of_ble_eq_true rfl) rfl hdd hC kk

theorem k_127_69 {X : GX} {d : Nat} {h : Hp} {v1 : Nat} {v2 : Int32} {v3 : Int32} {v4 : Int32} {v5 : Int32} {v6 : Int32} {d' : Nat} {Q' : Int32 → Hp → Prop} (hdd : d' < d) (hC : CI d' 105 [.int v6] h Q') (kk : ∀ x h', Q' x h' → G X d 127 74 [some (.ref 16), some (.ref v1), some (.int v2), some (.int v3), some (.int v4), some (.int v5), some (.int v6)] [.int x] h') : G X d 127 69 [some (.ref 16), some (.ref v1), some (.int v2), some (.int v3), some (.int v4), some (.int v5), some (.int v6)] [] h := by
  refine g_iload d_127_69 rfl ?_
  exact g_callSI (mj := 105) [.int v6] [] d_127_71 wd_297 mo_105 mc_105 mv_105 rfl rfl (Nat.le_of_ble_eq_true rfl)  hdd hC kk

theorem k_127_74 {X : GX} {d : Nat} {h : Hp} {v1 : Nat} {v2 : Int32} {v3 : Int32} {v4 : Int32} {v5 : Int32} {v6 : Int32} {s0 : Int32} (kt : ¬ s0 = 1 → G X d 127 89 [some (.ref 16), some (.ref v1), some (.int v2), some (.int v3), some (.int v4), some (.int v5), none] [] h) (kf : s0 = 1 → G X d 127 78 [some (.ref 16), some (.ref v1), some (.int v2), some (.int v3), some (.int v4), some (.int v5), some (.int v6)] [] h) : G X d 127 74 [some (.ref 16), some (.ref v1), some (.int v2), some (.int v3), some (.int v4), some (.int v5), some (.int v6)] [.int s0] h := by
  refine g_iconst (v := 1) d_127_74 (by decide) ?_
  exact g_icmp_ne (tgt := 89) d_127_75 (by decide) (fun q => g_mask [true, true, true, true, true, true, false] (kt q)) kf

theorem k_127_78 {X : GX} {d : Nat} {h : Hp} {v1 : Nat} {v2 : Int32} {v3 : Int32} {v4 : Int32} {v5 : Int32} {v6 : Int32} (kk : G X d 127 35 [some (.ref 16), some (.ref v1), some (.int v2), some (.int v3), some (.int v4), some (.int (v5 + 6)), none] [] (wr h 16 9 ((h 16 9) ||| v6))) : G X d 127 78 [some (.ref 16), some (.ref v1), some (.int v2), some (.int v3), some (.int v4), some (.int v5), some (.int v6)] [] h := by
  refine g_aload_n d_127_78 rfl rfl ?_
  refine g_dup d_127_79 rfl ?_
  refine g_getf (ci := 7) (k := 9) d_127_80 wd_71 (Nat.le_of_ble_eq_true rfl) rfl rfl ?_
  refine g_iload d_127_83 rfl ?_
  refine g_ior d_127_85 ?_
  refine g_putf (ci := 7) (k := 9) d_127_86 wd_71 (Nat.le_of_ble_eq_true rfl) (Nat.le_of_ble_eq_true rfl) rfl rfl (Or.inl ⟨rfl, rfl⟩) rfl ?_
  refine g_iinc (w := 6) d_127_89 rfl (by decide) (Nat.le_of_ble_eq_true rfl) rfl ?_
  refine g_goto (tgt := 35) d_127_92 (by decide) ?_
  exact g_mask [true, true, true, true, true, true, false] kk

theorem k_127_89 {X : GX} {d : Nat} {h : Hp} {v1 : Nat} {v2 : Int32} {v3 : Int32} {v4 : Int32} {v5 : Int32} (kk : G X d 127 35 [some (.ref 16), some (.ref v1), some (.int v2), some (.int v3), some (.int v4), some (.int (v5 + 6)), none] [] h) : G X d 127 89 [some (.ref 16), some (.ref v1), some (.int v2), some (.int v3), some (.int v4), some (.int v5), none] [] h := by
  refine g_iinc (w := 6) d_127_89 rfl (by decide) (Nat.le_of_ble_eq_true rfl) rfl ?_
  refine g_goto (tgt := 35) d_127_92 (by decide) ?_
  exact kk

theorem k_127_95 {X : GX} {d : Nat} {h : Hp} {v1 : Nat} {v2 : Int32} {v3 : Int32} {v4 : Int32} (kk : G X d 127 25 [some (.ref 16), some (.ref v1), some (.int v2), some (.int v3), some (.int (v4 + 1)), none, none] [] h) : G X d 127 95 [some (.ref 16), some (.ref v1), some (.int v2), some (.int v3), some (.int v4), none, none] [] h := by
  refine g_iinc (w := 1) d_127_95 rfl (by decide) (Nat.le_of_ble_eq_true rfl) rfl ?_
  refine g_goto (tgt := 25) d_127_98 (by decide) ?_
  exact kk

theorem k_127_101 {X : GX} {d : Nat} {h : Hp} {v1 : Nat} {v2 : Int32} {v3 : Int32} (kk : G X d 127 17 [some (.ref 16), some (.ref v1), some (.int v2), some (.int (v3 + 1)), none, none, none] [] h) : G X d 127 101 [some (.ref 16), some (.ref v1), some (.int v2), some (.int v3), none, none, none] [] h := by
  refine g_iinc (w := 1) d_127_101 rfl (by decide) (Nat.le_of_ble_eq_true rfl) rfl ?_
  refine g_goto (tgt := 17) d_127_104 (by decide) ?_
  exact kk

theorem k_127_107 {X : GX} {d : Nat} {h : Hp} (hq : RtX X none h) : G X d 127 107 [none, none, none, none, none, none, none] [] h := by
  exact g_retv d_127_107 rfl hq

/-! 128 PlayedTruth$Strangers.lastNight()I -/
theorem k_128_0 {X : GX} {d : Nat} {h : Hp} (kk : G X d 128 4 [some (.ref 16), some (.int ((-1))), some (.int 0)] [] h) : G X d 128 0 [some (.ref 16), none, none] [] h := by
  refine g_iconst (v := (-1)) d_128_0 (by decide) ?_
  refine g_istore_n d_128_1 rfl (Nat.le_of_ble_eq_true rfl) rfl ?_
  refine g_iconst (v := 0) d_128_2 (by decide) ?_
  refine g_istore_n d_128_3 rfl (Nat.le_of_ble_eq_true rfl) rfl ?_
  exact kk

theorem k_128_4 {X : GX} {d : Nat} {h : Hp} {v1 : Int32} {v2 : Int32} (kt : (h 16 4) ≤ v2 → G X d 128 29 [none, some (.int v1), none] [] h) (kf : ¬ (h 16 4) ≤ v2 → G X d 128 12 [some (.ref 16), some (.int v1), some (.int v2)] [] h) : G X d 128 4 [some (.ref 16), some (.int v1), some (.int v2)] [] h := by
  refine g_iload_n d_128_4 rfl rfl ?_
  refine g_aload_n d_128_5 rfl rfl ?_
  refine g_getf (ci := 7) (k := 4) d_128_6 wd_61 (Nat.le_of_ble_eq_true rfl) rfl rfl ?_
  exact g_icmp_ge (tgt := 29) d_128_9 (by decide) (fun q => g_mask [false, true, false] (kt q)) kf

theorem k_128_12 {X : GX} {d : Nat} {h : Hp} {v1 : Int32} {v2 : Int32} (b0 : IA 17 v2) (dd1 : 0 < d) (kk : G X d 128 4 [some (.ref 16), some (.int (if v1 < (h 17 (Int32.toNatClampNeg v2)) then (h 17 (Int32.toNatClampNeg v2)) else v1)), some (.int (v2 + 1))] [] h) : G X d 128 12 [some (.ref 16), some (.int v1), some (.int v2)] [] h := by
  refine g_iload_n d_128_12 rfl rfl ?_
  refine g_aload_n d_128_13 rfl rfl ?_
  refine g_getf (ci := 7) (k := 0) d_128_14 wd_57 (Nat.le_of_ble_eq_true rfl) rfl rfl ?_
  refine g_iload_n d_128_17 rfl rfl ?_
  refine g_iald d_128_18 b0 ?_
  refine g_mmax d_128_19 wd_289 (Nat.le_of_ble_eq_true rfl) dd1 ?_
  refine g_istore_n d_128_22 rfl (Nat.le_of_ble_eq_true rfl) rfl ?_
  refine g_iinc (w := 1) d_128_23 rfl (by decide) (Nat.le_of_ble_eq_true rfl) rfl ?_
  refine g_goto (tgt := 4) d_128_26 (by decide) ?_
  exact kk

theorem k_128_29 {X : GX} {d : Nat} {h : Hp} {v1 : Int32} (hq : RtX X (some (.int v1)) h) : G X d 128 29 [none, some (.int v1), none] [] h := by
  refine g_iload_n d_128_29 rfl rfl ?_
  exact g_reti d_128_30 rfl hq

/-! 129 PlayedTruth$Strangers.missedBy(LPlayedTruth$Stage;IIII)I -/
theorem k_129_0 {X : GX} {d : Nat} {h : Hp} {v1 : Nat} {v2 : Int32} {v3 : Int32} {v4 : Int32} {v5 : Int32} (kk : G X d 129 13 [some (.ref 16), some (.ref v1), some (.int v2), some (.int v3), some (.int v4), none, some (.int 0), some (.int v5), some (.int 0), some (.int 0)] [] h) : G X d 129 0 [some (.ref 16), some (.ref v1), some (.int v2), some (.int v3), some (.int v4), some (.int v5), none, none, none, none] [] h := by
  refine g_iconst (v := 0) d_129_0 (by decide) ?_
  refine g_istore d_129_1 (Nat.le_of_ble_eq_true rfl) rfl ?_
  refine g_iload d_129_3 rfl ?_
  refine g_istore d_129_5 (Nat.le_of_ble_eq_true rfl) rfl ?_
  refine g_iconst (v := 0) d_129_7 (by decide) ?_
  refine g_istore d_129_8 (Nat.le_of_ble_eq_true rfl) rfl ?_
  refine g_iconst (v := 0) d_129_10 (by decide) ?_
  refine g_istore d_129_11 (Nat.le_of_ble_eq_true rfl) rfl ?_
  exact g_mask [true, true, true, true, true, false, true, true, true, true] kk

theorem k_129_13 {X : GX} {d : Nat} {h : Hp} {v1 : Nat} {v2 : Int32} {v3 : Int32} {v4 : Int32} {v6 : Int32} {v7 : Int32} {v8 : Int32} {v9 : Int32} (kt : v2 < v9 → G X d 129 78 [none, none, none, none, none, none, some (.int v6), none, none, none] [] h) (kf : ¬ v2 < v9 → G X d 129 19 [some (.ref 16), some (.ref v1), some (.int v2), some (.int v3), some (.int v4), none, some (.int v6), some (.int v7), some (.int v8), some (.int v9)] [] h) : G X d 129 13 [some (.ref 16), some (.ref v1), some (.int v2), some (.int v3), some (.int v4), none, some (.int v6), some (.int v7), some (.int v8), some (.int v9)] [] h := by
  refine g_iload d_129_13 rfl ?_
  refine g_iload_n d_129_15 rfl rfl ?_
  exact g_icmp_gt (tgt := 78) d_129_16 (by decide) (fun q => g_mask [false, false, false, false, false, false, true, false, false, false] (kt q)) kf

theorem k_129_19 {X : GX} {d : Nat} {h : Hp} {v1 : Nat} {v2 : Int32} {v3 : Int32} {v4 : Int32} {v6 : Int32} {v7 : Int32} {v8 : Int32} {v9 : Int32} {d' : Nat} {Q' : Int32 → Hp → Prop} (hdd : d' < d) (hC : CI d' 130 [.ref 16, .int v9, .int v7, .int v8] h Q') (kk : ∀ x h', Q' x h' → G X d 129 31 [some (.ref 16), some (.ref v1), some (.int v2), some (.int v3), some (.int v4), none, none, some (.int v7), some (.int v8), some (.int v9)] [.int x, .int v6] h') : G X d 129 19 [some (.ref 16), some (.ref v1), some (.int v2), some (.int v3), some (.int v4), none, some (.int v6), some (.int v7), some (.int v8), some (.int v9)] [] h := by
  refine g_iload d_129_19 rfl ?_
  refine g_aload_n d_129_21 rfl rfl ?_
  refine g_iload d_129_22 rfl ?_
  refine g_iload d_129_24 rfl ?_
  refine g_iload d_129_26 rfl ?_
  exact g_callVI (mj := 130) 7 [.int v9, .int v7, .int v8] [.int v6] d_129_28 wd_291 mo_130 mc_130 mv_130 rfl rfl rfl (Nat.le_of_ble_eq_true rfl) rfl hdd hC (fun x h' q => g_mask [true, true, true, true, true, false, false, true, true, true] (kk x h' q))

theorem k_129_31 {X : GX} {d : Nat} {h : Hp} {v1 : Nat} {v2 : Int32} {v3 : Int32} {v4 : Int32} {v7 : Int32} {v8 : Int32} {v9 : Int32} {s0 : Int32} {s1 : Int32} {d' : Nat} {Q' : Int32 → Hp → Prop} (o0 : sh v1 = (1, 6)) (hdd : d' < d) (hC : CI d' 17 [.ref v1, .int v9] h Q') (kk : ∀ x h', Q' x h' → G X d 129 45 [some (.ref 16), some (.ref v1), some (.int v2), some (.int v3), some (.int v4), none, some (.int (s1 ||| s0)), some (.int v7), some (.int v8), some (.int v9)] [.int x, .int v3, .int v7, .int 99] h') : G X d 129 31 [some (.ref 16), some (.ref v1), some (.int v2), some (.int v3), some (.int v4), none, none, some (.int v7), some (.int v8), some (.int v9)] [.int s0, .int s1] h := by
  refine g_ior d_129_31 ?_
  refine g_istore d_129_32 (Nat.le_of_ble_eq_true rfl) rfl ?_
  refine g_bipush (v := 99) d_129_34 (by decide) ?_
  refine g_iload d_129_36 rfl ?_
  refine g_iload_n d_129_38 rfl rfl ?_
  refine g_aload_n d_129_39 rfl rfl ?_
  refine g_iload d_129_40 rfl ?_
  exact g_callVI (mj := 17) 6 [.int v9] [.int v3, .int v7, .int 99] d_129_42 wd_292 mo_17 mc_17 mv_17 rfl rfl rfl (Nat.le_of_ble_eq_true rfl) o0 hdd hC kk

theorem k_129_45 {X : GX} {d : Nat} {h : Hp} {v1 : Nat} {v2 : Int32} {v3 : Int32} {v4 : Int32} {v6 : Int32} {v7 : Int32} {v8 : Int32} {v9 : Int32} {s0 : Int32} {s1 : Int32} {s2 : Int32} {s3 : Int32} {d' : Nat} {Q' : Int32 → Hp → Prop} (hdd : d' < d) (hC : CI d' 18 [.int s1, .int s0, .int v7, .int v9] h Q') (kk : ∀ x h', Q' x h' → G X d 129 52 [some (.ref 16), some (.ref v1), some (.int v2), some (.int v3), some (.int v4), none, some (.int v6), none, some (.int v8), some (.int v9)] [.int x, .int s2, .int s3] h') : G X d 129 45 [some (.ref 16), some (.ref v1), some (.int v2), some (.int v3), some (.int v4), none, some (.int v6), some (.int v7), some (.int v8), some (.int v9)] [.int s0, .int s1, .int s2, .int s3] h := by
  refine g_iload d_129_45 rfl ?_
  refine g_iload d_129_47 rfl ?_
  exact g_callSI (mj := 18) [.int s1, .int s0, .int v7, .int v9] [.int s2, .int s3] d_129_49 wd_293 mo_18 mc_18 mv_18 rfl rfl (Nat.le_of_ble_eq_true rfl)  hdd hC (fun x h' q => g_mask [true, true, true, true, true, false, true, false, true, true] (kk x h' q))

theorem k_129_52 {X : GX} {d : Nat} {h : Hp} {v1 : Nat} {v2 : Int32} {v3 : Int32} {v4 : Int32} {v6 : Int32} {v8 : Int32} {v9 : Int32} {s0 : Int32} {s1 : Int32} {s2 : Int32} {d' : Nat} {Q' : Int32 → Hp → Prop} (dd0 : 0 < d) (hdd : d' < d) (hC : CI d' 22 [.int v3, .int v4, .int (if (s1 + s0) < s2 then (s1 + s0) else s2), .int 0] h Q') (kk : ∀ x h', Q' x h' → G X d 129 69 [some (.ref 16), some (.ref v1), some (.int v2), some (.int v3), some (.int v4), none, some (.int v6), some (.int (if (s1 + s0) < s2 then (s1 + s0) else s2)), none, some (.int v9)] [.int x, .int v8] h') : G X d 129 52 [some (.ref 16), some (.ref v1), some (.int v2), some (.int v3), some (.int v4), none, some (.int v6), none, some (.int v8), some (.int v9)] [.int s0, .int s1, .int s2] h := by
  refine g_iadd d_129_52 ?_
  refine g_mmin d_129_53 wd_294 (Nat.le_of_ble_eq_true rfl) dd0 ?_
  refine g_istore d_129_56 (Nat.le_of_ble_eq_true rfl) rfl ?_
  refine g_iload d_129_58 rfl ?_
  refine g_iload_n d_129_60 rfl rfl ?_
  refine g_iload d_129_61 rfl ?_
  refine g_iload d_129_63 rfl ?_
  refine g_iconst (v := 0) d_129_65 (by decide) ?_
  exact g_callSI (mj := 22) [.int v3, .int v4, .int (if (s1 + s0) < s2 then (s1 + s0) else s2), .int 0] [.int v8] d_129_66 wd_295 mo_22 mc_22 mv_22 rfl rfl (Nat.le_of_ble_eq_true rfl)  hdd hC (fun x h' q => g_mask [true, true, true, true, true, false, true, true, false, true] (kk x h' q))

theorem k_129_69 {X : GX} {d : Nat} {h : Hp} {v1 : Nat} {v2 : Int32} {v3 : Int32} {v4 : Int32} {v6 : Int32} {v7 : Int32} {v9 : Int32} {s0 : Int32} {s1 : Int32} (kk : G X d 129 13 [some (.ref 16), some (.ref v1), some (.int v2), some (.int v3), some (.int v4), none, some (.int v6), some (.int v7), some (.int (s1 + s0)), some (.int (v9 + 1))] [] h) : G X d 129 69 [some (.ref 16), some (.ref v1), some (.int v2), some (.int v3), some (.int v4), none, some (.int v6), some (.int v7), none, some (.int v9)] [.int s0, .int s1] h := by
  refine g_iadd d_129_69 ?_
  refine g_istore d_129_70 (Nat.le_of_ble_eq_true rfl) rfl ?_
  refine g_iinc (w := 1) d_129_72 rfl (by decide) (Nat.le_of_ble_eq_true rfl) rfl ?_
  refine g_goto (tgt := 13) d_129_75 (by decide) ?_
  exact kk

theorem k_129_78 {X : GX} {d : Nat} {h : Hp} {v6 : Int32} (hq : RtX X (some (.int v6)) h) : G X d 129 78 [none, none, none, none, none, none, some (.int v6), none, none, none] [] h := by
  refine g_iload d_129_78 rfl ?_
  exact g_reti d_129_80 rfl hq

/-! 130 PlayedTruth$Strangers.missedBehind(III)I -/
theorem k_130_0 {X : GX} {d : Nat} {h : Hp} {v1 : Int32} {v2 : Int32} {v3 : Int32} (kk : G X d 130 6 [some (.ref 16), some (.int v1), some (.int v2), some (.int v3), some (.int 0), some (.int 0), none] [] h) : G X d 130 0 [some (.ref 16), some (.int v1), some (.int v2), some (.int v3), none, none, none] [] h := by
  refine g_iconst (v := 0) d_130_0 (by decide) ?_
  refine g_istore d_130_1 (Nat.le_of_ble_eq_true rfl) rfl ?_
  refine g_iconst (v := 0) d_130_3 (by decide) ?_
  refine g_istore d_130_4 (Nat.le_of_ble_eq_true rfl) rfl ?_
  exact kk

theorem k_130_6 {X : GX} {d : Nat} {h : Hp} {v1 : Int32} {v2 : Int32} {v3 : Int32} {v4 : Int32} {v5 : Int32} (kt : (h 16 4) ≤ v5 → G X d 130 85 [none, none, none, none, some (.int v4), none, none] [] h) (kf : ¬ (h 16 4) ≤ v5 → G X d 130 15 [some (.ref 16), some (.int v1), some (.int v2), some (.int v3), some (.int v4), some (.int v5), none] [] h) : G X d 130 6 [some (.ref 16), some (.int v1), some (.int v2), some (.int v3), some (.int v4), some (.int v5), none] [] h := by
  refine g_iload d_130_6 rfl ?_
  refine g_aload_n d_130_8 rfl rfl ?_
  refine g_getf (ci := 7) (k := 4) d_130_9 wd_61 (Nat.le_of_ble_eq_true rfl) rfl rfl ?_
  exact g_icmp_ge (tgt := 85) d_130_12 (by decide) (fun q => g_mask [false, false, false, false, true, false, false] (kt q)) kf

theorem k_130_15 {X : GX} {d : Nat} {h : Hp} {v1 : Int32} {v2 : Int32} {v3 : Int32} {v4 : Int32} {v5 : Int32} (b0 : IA 17 v5) (kt : (h 17 (Int32.toNatClampNeg v5)) = v1 → G X d 130 29 [some (.ref 16), some (.int v1), some (.int v2), some (.int v3), some (.int v4), some (.int v5), none] [] h) (kf : ¬ (h 17 (Int32.toNatClampNeg v5)) = v1 → G X d 130 26 [some (.ref 16), some (.int v1), some (.int v2), some (.int v3), some (.int v4), some (.int v5), none] [] h) : G X d 130 15 [some (.ref 16), some (.int v1), some (.int v2), some (.int v3), some (.int v4), some (.int v5), none] [] h := by
  refine g_aload_n d_130_15 rfl rfl ?_
  refine g_getf (ci := 7) (k := 0) d_130_16 wd_57 (Nat.le_of_ble_eq_true rfl) rfl rfl ?_
  refine g_iload d_130_19 rfl ?_
  refine g_iald d_130_21 b0 ?_
  refine g_iload_n d_130_22 rfl rfl ?_
  exact g_icmp_eq (tgt := 29) d_130_23 (by decide) kt kf

theorem k_130_26 {X : GX} {d : Nat} {h : Hp} {v1 : Int32} {v2 : Int32} {v3 : Int32} {v4 : Int32} {v5 : Int32} (kk : G X d 130 6 [some (.ref 16), some (.int v1), some (.int v2), some (.int v3), some (.int v4), some (.int (v5 + 1)), none] [] h) : G X d 130 26 [some (.ref 16), some (.int v1), some (.int v2), some (.int v3), some (.int v4), some (.int v5), none] [] h := by
  refine g_goto (tgt := 79) d_130_26 (by decide) ?_
  refine g_iinc (w := 1) d_130_79 rfl (by decide) (Nat.le_of_ble_eq_true rfl) rfl ?_
  refine g_goto (tgt := 6) d_130_82 (by decide) ?_
  exact kk

theorem k_130_29 {X : GX} {d : Nat} {h : Hp} {v1 : Int32} {v2 : Int32} {v3 : Int32} {v4 : Int32} {v5 : Int32} (b0 : IA 18 v5) (kt : ¬ (h 18 (Int32.toNatClampNeg v5)) = 0 → G X d 130 43 [some (.ref 16), some (.int v1), some (.int v2), some (.int v3), some (.int v4), some (.int v5), none] [] h) (kf : (h 18 (Int32.toNatClampNeg v5)) = 0 → G X d 130 39 [some (.ref 16), some (.int v1), some (.int v2), some (.int v3), some (.int v4), some (.int v5), none] [] h) : G X d 130 29 [some (.ref 16), some (.int v1), some (.int v2), some (.int v3), some (.int v4), some (.int v5), none] [] h := by
  refine g_aload_n d_130_29 rfl rfl ?_
  refine g_getf (ci := 7) (k := 1) d_130_30 wd_58 (Nat.le_of_ble_eq_true rfl) rfl rfl ?_
  refine g_iload d_130_33 rfl ?_
  refine g_iald d_130_35 b0 ?_
  exact g_if_ne (tgt := 43) d_130_36 (by decide) kt kf

theorem k_130_39 {X : GX} {d : Nat} {h : Hp} {v1 : Int32} {v2 : Int32} {v3 : Int32} {v4 : Int32} {v5 : Int32} (b0 : IA 19 v5) (kt : v2 < (h 19 (Int32.toNatClampNeg v5)) → G X d 130 70 [some (.ref 16), some (.int v1), some (.int v2), some (.int v3), some (.int v4), some (.int v5), none] [] h) (kf : ¬ v2 < (h 19 (Int32.toNatClampNeg v5)) → G X d 130 58 [some (.ref 16), some (.int v1), some (.int v2), some (.int v3), some (.int v4), some (.int v5), some (.int v2)] [] h) : G X d 130 39 [some (.ref 16), some (.int v1), some (.int v2), some (.int v3), some (.int v4), some (.int v5), none] [] h := by
  refine g_iload_n d_130_39 rfl rfl ?_
  refine g_goto (tgt := 44) d_130_40 (by decide) ?_
  refine g_istore d_130_44 (Nat.le_of_ble_eq_true rfl) rfl ?_
  refine g_iload d_130_46 rfl ?_
  refine g_aload_n d_130_48 rfl rfl ?_
  refine g_getf (ci := 7) (k := 2) d_130_49 wd_59 (Nat.le_of_ble_eq_true rfl) rfl rfl ?_
  refine g_iload d_130_52 rfl ?_
  refine g_iald d_130_54 b0 ?_
  exact g_icmp_lt (tgt := 70) d_130_55 (by decide) (fun q => g_mask [true, true, true, true, true, true, false] (kt q)) kf

theorem k_130_43 {X : GX} {d : Nat} {h : Hp} {v1 : Int32} {v2 : Int32} {v3 : Int32} {v4 : Int32} {v5 : Int32} (b0 : IA 19 v5) (kt : v3 < (h 19 (Int32.toNatClampNeg v5)) → G X d 130 70 [some (.ref 16), some (.int v1), some (.int v2), some (.int v3), some (.int v4), some (.int v5), none] [] h) (kf : ¬ v3 < (h 19 (Int32.toNatClampNeg v5)) → G X d 130 58 [some (.ref 16), some (.int v1), some (.int v2), some (.int v3), some (.int v4), some (.int v5), some (.int v3)] [] h) : G X d 130 43 [some (.ref 16), some (.int v1), some (.int v2), some (.int v3), some (.int v4), some (.int v5), none] [] h := by
  refine g_iload_n d_130_43 rfl rfl ?_
  refine g_istore d_130_44 (Nat.le_of_ble_eq_true rfl) rfl ?_
  refine g_iload d_130_46 rfl ?_
  refine g_aload_n d_130_48 rfl rfl ?_
  refine g_getf (ci := 7) (k := 2) d_130_49 wd_59 (Nat.le_of_ble_eq_true rfl) rfl rfl ?_
  refine g_iload d_130_52 rfl ?_
  refine g_iald d_130_54 b0 ?_
  exact g_icmp_lt (tgt := 70) d_130_55 (by decide) (fun q => g_mask [true, true, true, true, true, true, false] (kt q)) kf

theorem k_130_58 {X : GX} {d : Nat} {h : Hp} {v1 : Int32} {v2 : Int32} {v3 : Int32} {v4 : Int32} {v5 : Int32} {v6 : Int32} (b0 : IA 20 v5) (kt : v6 ≤ (h 20 (Int32.toNatClampNeg v5)) → G X d 130 79 [some (.ref 16), some (.int v1), some (.int v2), some (.int v3), some (.int v4), some (.int v5), none] [] h) (kf : ¬ v6 ≤ (h 20 (Int32.toNatClampNeg v5)) → G X d 130 70 [some (.ref 16), some (.int v1), some (.int v2), some (.int v3), some (.int v4), some (.int v5), none] [] h) : G X d 130 58 [some (.ref 16), some (.int v1), some (.int v2), some (.int v3), some (.int v4), some (.int v5), some (.int v6)] [] h := by
  refine g_iload d_130_58 rfl ?_
  refine g_aload_n d_130_60 rfl rfl ?_
  refine g_getf (ci := 7) (k := 3) d_130_61 wd_60 (Nat.le_of_ble_eq_true rfl) rfl rfl ?_
  refine g_iload d_130_64 rfl ?_
  refine g_iald d_130_66 b0 ?_
  exact g_icmp_le (tgt := 79) d_130_67 (by decide) (fun q => g_mask [true, true, true, true, true, true, false] (kt q)) (fun q => g_mask [true, true, true, true, true, true, false] (kf q))

theorem k_130_70 {X : GX} {d : Nat} {h : Hp} {v1 : Int32} {v2 : Int32} {v3 : Int32} {v4 : Int32} {v5 : Int32} (kk : G X d 130 6 [some (.ref 16), some (.int v1), some (.int v2), some (.int v3), some (.int (v4 ||| (1 <<< (v5 &&& 31)))), some (.int (v5 + 1)), none] [] h) : G X d 130 70 [some (.ref 16), some (.int v1), some (.int v2), some (.int v3), some (.int v4), some (.int v5), none] [] h := by
  refine g_iload d_130_70 rfl ?_
  refine g_iconst (v := 1) d_130_72 (by decide) ?_
  refine g_iload d_130_73 rfl ?_
  refine g_ishl d_130_75 ?_
  refine g_ior d_130_76 ?_
  refine g_istore d_130_77 (Nat.le_of_ble_eq_true rfl) rfl ?_
  refine g_iinc (w := 1) d_130_79 rfl (by decide) (Nat.le_of_ble_eq_true rfl) rfl ?_
  refine g_goto (tgt := 6) d_130_82 (by decide) ?_
  exact kk

theorem k_130_79 {X : GX} {d : Nat} {h : Hp} {v1 : Int32} {v2 : Int32} {v3 : Int32} {v4 : Int32} {v5 : Int32} (kk : G X d 130 6 [some (.ref 16), some (.int v1), some (.int v2), some (.int v3), some (.int v4), some (.int (v5 + 1)), none] [] h) : G X d 130 79 [some (.ref 16), some (.int v1), some (.int v2), some (.int v3), some (.int v4), some (.int v5), none] [] h := by
  refine g_iinc (w := 1) d_130_79 rfl (by decide) (Nat.le_of_ble_eq_true rfl) rfl ?_
  refine g_goto (tgt := 6) d_130_82 (by decide) ?_
  exact kk

theorem k_130_85 {X : GX} {d : Nat} {h : Hp} {v4 : Int32} (hq : RtX X (some (.int v4)) h) : G X d 130 85 [none, none, none, none, some (.int v4), none, none] [] h := by
  refine g_iload d_130_85 rfl ?_
  exact g_reti d_130_87 rfl hq

/-! 131 PlayedTruth$Strangers.countFit(III)V -/
theorem k_131_0 {X : GX} {d : Nat} {h : Hp} {v1 : Int32} {v2 : Int32} {v3 : Int32} (kt : ((wr h 16 5 ((h 16 5) + 1)) 16 5) ≤ 1 → G X d 131 19 [some (.ref 16), some (.int v1), some (.int v2), some (.int v3)] [] (wr h 16 5 ((h 16 5) + 1))) (kf : ¬ ((wr h 16 5 ((h 16 5) + 1)) 16 5) ≤ 1 → G X d 131 18 [none, none, none, none] [] (wr h 16 5 ((h 16 5) + 1))) : G X d 131 0 [some (.ref 16), some (.int v1), some (.int v2), some (.int v3)] [] h := by
  refine g_aload_n d_131_0 rfl rfl ?_
  refine g_dup d_131_1 rfl ?_
  refine g_getf (ci := 7) (k := 5) d_131_2 wd_63 (Nat.le_of_ble_eq_true rfl) rfl rfl ?_
  refine g_iconst (v := 1) d_131_5 (by decide) ?_
  refine g_iadd d_131_6 ?_
  refine g_putf (ci := 7) (k := 5) d_131_7 wd_63 (Nat.le_of_ble_eq_true rfl) (Nat.le_of_ble_eq_true rfl) rfl rfl (Or.inl ⟨rfl, rfl⟩) rfl ?_
  refine g_aload_n d_131_10 rfl rfl ?_
  refine g_getf (ci := 7) (k := 5) d_131_11 wd_63 (Nat.le_of_ble_eq_true rfl) rfl rfl ?_
  refine g_iconst (v := 1) d_131_14 (by decide) ?_
  exact g_icmp_le (tgt := 19) d_131_15 (by decide) kt (fun q => g_mask [false, false, false, false] (kf q))

theorem k_131_18 {X : GX} {d : Nat} {h : Hp} (hq : RtX X none h) : G X d 131 18 [none, none, none, none] [] h := by
  exact g_retv d_131_18 rfl hq

theorem k_131_19 {X : GX} {d : Nat} {h : Hp} {v1 : Int32} {v2 : Int32} {v3 : Int32} (hq : RtX X none (wr (wr (wr h 16 6 v1) 16 7 v2) 16 8 v3)) : G X d 131 19 [some (.ref 16), some (.int v1), some (.int v2), some (.int v3)] [] h := by
  refine g_aload_n d_131_19 rfl rfl ?_
  refine g_iload_n d_131_20 rfl rfl ?_
  refine g_putf (ci := 7) (k := 6) d_131_21 wd_65 (Nat.le_of_ble_eq_true rfl) (Nat.le_of_ble_eq_true rfl) rfl rfl (Or.inl ⟨rfl, rfl⟩) rfl ?_
  refine g_aload_n d_131_24 rfl rfl ?_
  refine g_iload_n d_131_25 rfl rfl ?_
  refine g_putf (ci := 7) (k := 7) d_131_26 wd_67 (Nat.le_of_ble_eq_true rfl) (Nat.le_of_ble_eq_true rfl) rfl rfl (Or.inl ⟨rfl, rfl⟩) rfl ?_
  refine g_aload_n d_131_29 rfl rfl ?_
  refine g_iload_n d_131_30 rfl rfl ?_
  refine g_putf (ci := 7) (k := 8) d_131_31 wd_69 (Nat.le_of_ble_eq_true rfl) (Nat.le_of_ble_eq_true rfl) rfl rfl (Or.inl ⟨rfl, rfl⟩) rfl ?_
  exact g_retv d_131_34 rfl hq

/-! 173 PlayedTruth$Strangers.copyFrom(LPlayedTruth$Strangers;)V -/
theorem k_173_0 {X : GX} {d : Nat} {h : Hp} {v0 : Nat} {v1 : Nat} (o0 : sh v1 = (1, 7)) (o1 : sh v0 = (1, 7)) (dd2 : 0 < d) (o3 : sh (v1 + 1) = (0, 6)) (o4 : sh (v0 + 1) = (0, 6)) (o5 : sh (v1 + 2) = (0, 6)) (o6 : sh (v0 + 2) = (0, 6)) (o7 : sh (v1 + 3) = (0, 6)) (o8 : sh (v0 + 3) = (0, 6)) (o9 : sh (v1 + 4) = (0, 6)) (o10 : sh (v0 + 4) = (0, 6)) (hq : RtX X none (wr (wrA (wrA (wrA (wrA h (v0 + 1) (va_cpy (h (v1 + 1)) (h (v0 + 1)) (Int32.toNatClampNeg 0) (Int32.toNatClampNeg 0) (Int32.toNatClampNeg 6))) (v0 + 2) (va_cpy ((wrA h (v0 + 1) (va_cpy (h (v1 + 1)) (h (v0 + 1)) (Int32.toNatClampNeg 0) (Int32.toNatClampNeg 0) (Int32.toNatClampNeg 6))) (v1 + 2)) ((wrA h (v0 + 1) (va_cpy (h (v1 + 1)) (h (v0 + 1)) (Int32.toNatClampNeg 0) (Int32.toNatClampNeg 0) (Int32.toNatClampNeg 6))) (v0 + 2)) (Int32.toNatClampNeg 0) (Int32.toNatClampNeg 0) (Int32.toNatClampNeg 6))) (v0 + 3) (va_cpy ((wrA (wrA h (v0 + 1) (va_cpy (h (v1 + 1)) (h (v0 + 1)) (Int32.toNatClampNeg 0) (Int32.toNatClampNeg 0) (Int32.toNatClampNeg 6))) (v0 + 2) (va_cpy ((wrA h (v0 + 1) (va_cpy (h (v1 + 1)) (h (v0 + 1)) (Int32.toNatClampNeg 0) (Int32.toNatClampNeg 0) (Int32.toNatClampNeg 6))) (v1 + 2)) ((wrA h (v0 + 1) (va_cpy (h (v1 + 1)) (h (v0 + 1)) (Int32.toNatClampNeg 0) (Int32.toNatClampNeg 0) (Int32.toNatClampNeg 6))) (v0 + 2)) (Int32.toNatClampNeg 0) (Int32.toNatClampNeg 0) (Int32.toNatClampNeg 6))) (v1 + 3)) ((wrA (wrA h (v0 + 1) (va_cpy (h (v1 + 1)) (h (v0 + 1)) (Int32.toNatClampNeg 0) (Int32.toNatClampNeg 0) (Int32.toNatClampNeg 6))) (v0 + 2) (va_cpy ((wrA h (v0 + 1) (va_cpy (h (v1 + 1)) (h (v0 + 1)) (Int32.toNatClampNeg 0) (Int32.toNatClampNeg 0) (Int32.toNatClampNeg 6))) (v1 + 2)) ((wrA h (v0 + 1) (va_cpy (h (v1 + 1)) (h (v0 + 1)) (Int32.toNatClampNeg 0) (Int32.toNatClampNeg 0) (Int32.toNatClampNeg 6))) (v0 + 2)) (Int32.toNatClampNeg 0) (Int32.toNatClampNeg 0) (Int32.toNatClampNeg 6))) (v0 + 3)) (Int32.toNatClampNeg 0) (Int32.toNatClampNeg 0) (Int32.toNatClampNeg 6))) (v0 + 4) (va_cpy ((wrA (wrA (wrA h (v0 + 1) (va_cpy (h (v1 + 1)) (h (v0 + 1)) (Int32.toNatClampNeg 0) (Int32.toNatClampNeg 0) (Int32.toNatClampNeg 6))) (v0 + 2) (va_cpy ((wrA h (v0 + 1) (va_cpy (h (v1 + 1)) (h (v0 + 1)) (Int32.toNatClampNeg 0) (Int32.toNatClampNeg 0) (Int32.toNatClampNeg 6))) (v1 + 2)) ((wrA h (v0 + 1) (va_cpy (h (v1 + 1)) (h (v0 + 1)) (Int32.toNatClampNeg 0) (Int32.toNatClampNeg 0) (Int32.toNatClampNeg 6))) (v0 + 2)) (Int32.toNatClampNeg 0) (Int32.toNatClampNeg 0) (Int32.toNatClampNeg 6))) (v0 + 3) (va_cpy ((wrA (wrA h (v0 + 1) (va_cpy (h (v1 + 1)) (h (v0 + 1)) (Int32.toNatClampNeg 0) (Int32.toNatClampNeg 0) (Int32.toNatClampNeg 6))) (v0 + 2) (va_cpy ((wrA h (v0 + 1) (va_cpy (h (v1 + 1)) (h (v0 + 1)) (Int32.toNatClampNeg 0) (Int32.toNatClampNeg 0) (Int32.toNatClampNeg 6))) (v1 + 2)) ((wrA h (v0 + 1) (va_cpy (h (v1 + 1)) (h (v0 + 1)) (Int32.toNatClampNeg 0) (Int32.toNatClampNeg 0) (Int32.toNatClampNeg 6))) (v0 + 2)) (Int32.toNatClampNeg 0) (Int32.toNatClampNeg 0) (Int32.toNatClampNeg 6))) (v1 + 3)) ((wrA (wrA h (v0 + 1) (va_cpy (h (v1 + 1)) (h (v0 + 1)) (Int32.toNatClampNeg 0) (Int32.toNatClampNeg 0) (Int32.toNatClampNeg 6))) (v0 + 2) (va_cpy ((wrA h (v0 + 1) (va_cpy (h (v1 + 1)) (h (v0 + 1)) (Int32.toNatClampNeg 0) (Int32.toNatClampNeg 0) (Int32.toNatClampNeg 6))) (v1 + 2)) ((wrA h (v0 + 1) (va_cpy (h (v1 + 1)) (h (v0 + 1)) (Int32.toNatClampNeg 0) (Int32.toNatClampNeg 0) (Int32.toNatClampNeg 6))) (v0 + 2)) (Int32.toNatClampNeg 0) (Int32.toNatClampNeg 0) (Int32.toNatClampNeg 6))) (v0 + 3)) (Int32.toNatClampNeg 0) (Int32.toNatClampNeg 0) (Int32.toNatClampNeg 6))) (v1 + 4)) ((wrA (wrA (wrA h (v0 + 1) (va_cpy (h (v1 + 1)) (h (v0 + 1)) (Int32.toNatClampNeg 0) (Int32.toNatClampNeg 0) (Int32.toNatClampNeg 6))) (v0 + 2) (va_cpy ((wrA h (v0 + 1) (va_cpy (h (v1 + 1)) (h (v0 + 1)) (Int32.toNatClampNeg 0) (Int32.toNatClampNeg 0) (Int32.toNatClampNeg 6))) (v1 + 2)) ((wrA h (v0 + 1) (va_cpy (h (v1 + 1)) (h (v0 + 1)) (Int32.toNatClampNeg 0) (Int32.toNatClampNeg 0) (Int32.toNatClampNeg 6))) (v0 + 2)) (Int32.toNatClampNeg 0) (Int32.toNatClampNeg 0) (Int32.toNatClampNeg 6))) (v0 + 3) (va_cpy ((wrA (wrA h (v0 + 1) (va_cpy (h (v1 + 1)) (h (v0 + 1)) (Int32.toNatClampNeg 0) (Int32.toNatClampNeg 0) (Int32.toNatClampNeg 6))) (v0 + 2) (va_cpy ((wrA h (v0 + 1) (va_cpy (h (v1 + 1)) (h (v0 + 1)) (Int32.toNatClampNeg 0) (Int32.toNatClampNeg 0) (Int32.toNatClampNeg 6))) (v1 + 2)) ((wrA h (v0 + 1) (va_cpy (h (v1 + 1)) (h (v0 + 1)) (Int32.toNatClampNeg 0) (Int32.toNatClampNeg 0) (Int32.toNatClampNeg 6))) (v0 + 2)) (Int32.toNatClampNeg 0) (Int32.toNatClampNeg 0) (Int32.toNatClampNeg 6))) (v1 + 3)) ((wrA (wrA h (v0 + 1) (va_cpy (h (v1 + 1)) (h (v0 + 1)) (Int32.toNatClampNeg 0) (Int32.toNatClampNeg 0) (Int32.toNatClampNeg 6))) (v0 + 2) (va_cpy ((wrA h (v0 + 1) (va_cpy (h (v1 + 1)) (h (v0 + 1)) (Int32.toNatClampNeg 0) (Int32.toNatClampNeg 0) (Int32.toNatClampNeg 6))) (v1 + 2)) ((wrA h (v0 + 1) (va_cpy (h (v1 + 1)) (h (v0 + 1)) (Int32.toNatClampNeg 0) (Int32.toNatClampNeg 0) (Int32.toNatClampNeg 6))) (v0 + 2)) (Int32.toNatClampNeg 0) (Int32.toNatClampNeg 0) (Int32.toNatClampNeg 6))) (v0 + 3)) (Int32.toNatClampNeg 0) (Int32.toNatClampNeg 0) (Int32.toNatClampNeg 6))) (v0 + 4)) (Int32.toNatClampNeg 0) (Int32.toNatClampNeg 0) (Int32.toNatClampNeg 6))) v0 4 ((wrA (wrA (wrA (wrA h (v0 + 1) (va_cpy (h (v1 + 1)) (h (v0 + 1)) (Int32.toNatClampNeg 0) (Int32.toNatClampNeg 0) (Int32.toNatClampNeg 6))) (v0 + 2) (va_cpy ((wrA h (v0 + 1) (va_cpy (h (v1 + 1)) (h (v0 + 1)) (Int32.toNatClampNeg 0) (Int32.toNatClampNeg 0) (Int32.toNatClampNeg 6))) (v1 + 2)) ((wrA h (v0 + 1) (va_cpy (h (v1 + 1)) (h (v0 + 1)) (Int32.toNatClampNeg 0) (Int32.toNatClampNeg 0) (Int32.toNatClampNeg 6))) (v0 + 2)) (Int32.toNatClampNeg 0) (Int32.toNatClampNeg 0) (Int32.toNatClampNeg 6))) (v0 + 3) (va_cpy ((wrA (wrA h (v0 + 1) (va_cpy (h (v1 + 1)) (h (v0 + 1)) (Int32.toNatClampNeg 0) (Int32.toNatClampNeg 0) (Int32.toNatClampNeg 6))) (v0 + 2) (va_cpy ((wrA h (v0 + 1) (va_cpy (h (v1 + 1)) (h (v0 + 1)) (Int32.toNatClampNeg 0) (Int32.toNatClampNeg 0) (Int32.toNatClampNeg 6))) (v1 + 2)) ((wrA h (v0 + 1) (va_cpy (h (v1 + 1)) (h (v0 + 1)) (Int32.toNatClampNeg 0) (Int32.toNatClampNeg 0) (Int32.toNatClampNeg 6))) (v0 + 2)) (Int32.toNatClampNeg 0) (Int32.toNatClampNeg 0) (Int32.toNatClampNeg 6))) (v1 + 3)) ((wrA (wrA h (v0 + 1) (va_cpy (h (v1 + 1)) (h (v0 + 1)) (Int32.toNatClampNeg 0) (Int32.toNatClampNeg 0) (Int32.toNatClampNeg 6))) (v0 + 2) (va_cpy ((wrA h (v0 + 1) (va_cpy (h (v1 + 1)) (h (v0 + 1)) (Int32.toNatClampNeg 0) (Int32.toNatClampNeg 0) (Int32.toNatClampNeg 6))) (v1 + 2)) ((wrA h (v0 + 1) (va_cpy (h (v1 + 1)) (h (v0 + 1)) (Int32.toNatClampNeg 0) (Int32.toNatClampNeg 0) (Int32.toNatClampNeg 6))) (v0 + 2)) (Int32.toNatClampNeg 0) (Int32.toNatClampNeg 0) (Int32.toNatClampNeg 6))) (v0 + 3)) (Int32.toNatClampNeg 0) (Int32.toNatClampNeg 0) (Int32.toNatClampNeg 6))) (v0 + 4) (va_cpy ((wrA (wrA (wrA h (v0 + 1) (va_cpy (h (v1 + 1)) (h (v0 + 1)) (Int32.toNatClampNeg 0) (Int32.toNatClampNeg 0) (Int32.toNatClampNeg 6))) (v0 + 2) (va_cpy ((wrA h (v0 + 1) (va_cpy (h (v1 + 1)) (h (v0 + 1)) (Int32.toNatClampNeg 0) (Int32.toNatClampNeg 0) (Int32.toNatClampNeg 6))) (v1 + 2)) ((wrA h (v0 + 1) (va_cpy (h (v1 + 1)) (h (v0 + 1)) (Int32.toNatClampNeg 0) (Int32.toNatClampNeg 0) (Int32.toNatClampNeg 6))) (v0 + 2)) (Int32.toNatClampNeg 0) (Int32.toNatClampNeg 0) (Int32.toNatClampNeg 6))) (v0 + 3) (va_cpy ((wrA (wrA h (v0 + 1) (va_cpy (h (v1 + 1)) (h (v0 + 1)) (Int32.toNatClampNeg 0) (Int32.toNatClampNeg 0) (Int32.toNatClampNeg 6))) (v0 + 2) (va_cpy ((wrA h (v0 + 1) (va_cpy (h (v1 + 1)) (h (v0 + 1)) (Int32.toNatClampNeg 0) (Int32.toNatClampNeg 0) (Int32.toNatClampNeg 6))) (v1 + 2)) ((wrA h (v0 + 1) (va_cpy (h (v1 + 1)) (h (v0 + 1)) (Int32.toNatClampNeg 0) (Int32.toNatClampNeg 0) (Int32.toNatClampNeg 6))) (v0 + 2)) (Int32.toNatClampNeg 0) (Int32.toNatClampNeg 0) (Int32.toNatClampNeg 6))) (v1 + 3)) ((wrA (wrA h (v0 + 1) (va_cpy (h (v1 + 1)) (h (v0 + 1)) (Int32.toNatClampNeg 0) (Int32.toNatClampNeg 0) (Int32.toNatClampNeg 6))) (v0 + 2) (va_cpy ((wrA h (v0 + 1) (va_cpy (h (v1 + 1)) (h (v0 + 1)) (Int32.toNatClampNeg 0) (Int32.toNatClampNeg 0) (Int32.toNatClampNeg 6))) (v1 + 2)) ((wrA h (v0 + 1) (va_cpy (h (v1 + 1)) (h (v0 + 1)) (Int32.toNatClampNeg 0) (Int32.toNatClampNeg 0) (Int32.toNatClampNeg 6))) (v0 + 2)) (Int32.toNatClampNeg 0) (Int32.toNatClampNeg 0) (Int32.toNatClampNeg 6))) (v0 + 3)) (Int32.toNatClampNeg 0) (Int32.toNatClampNeg 0) (Int32.toNatClampNeg 6))) (v1 + 4)) ((wrA (wrA (wrA h (v0 + 1) (va_cpy (h (v1 + 1)) (h (v0 + 1)) (Int32.toNatClampNeg 0) (Int32.toNatClampNeg 0) (Int32.toNatClampNeg 6))) (v0 + 2) (va_cpy ((wrA h (v0 + 1) (va_cpy (h (v1 + 1)) (h (v0 + 1)) (Int32.toNatClampNeg 0) (Int32.toNatClampNeg 0) (Int32.toNatClampNeg 6))) (v1 + 2)) ((wrA h (v0 + 1) (va_cpy (h (v1 + 1)) (h (v0 + 1)) (Int32.toNatClampNeg 0) (Int32.toNatClampNeg 0) (Int32.toNatClampNeg 6))) (v0 + 2)) (Int32.toNatClampNeg 0) (Int32.toNatClampNeg 0) (Int32.toNatClampNeg 6))) (v0 + 3) (va_cpy ((wrA (wrA h (v0 + 1) (va_cpy (h (v1 + 1)) (h (v0 + 1)) (Int32.toNatClampNeg 0) (Int32.toNatClampNeg 0) (Int32.toNatClampNeg 6))) (v0 + 2) (va_cpy ((wrA h (v0 + 1) (va_cpy (h (v1 + 1)) (h (v0 + 1)) (Int32.toNatClampNeg 0) (Int32.toNatClampNeg 0) (Int32.toNatClampNeg 6))) (v1 + 2)) ((wrA h (v0 + 1) (va_cpy (h (v1 + 1)) (h (v0 + 1)) (Int32.toNatClampNeg 0) (Int32.toNatClampNeg 0) (Int32.toNatClampNeg 6))) (v0 + 2)) (Int32.toNatClampNeg 0) (Int32.toNatClampNeg 0) (Int32.toNatClampNeg 6))) (v1 + 3)) ((wrA (wrA h (v0 + 1) (va_cpy (h (v1 + 1)) (h (v0 + 1)) (Int32.toNatClampNeg 0) (Int32.toNatClampNeg 0) (Int32.toNatClampNeg 6))) (v0 + 2) (va_cpy ((wrA h (v0 + 1) (va_cpy (h (v1 + 1)) (h (v0 + 1)) (Int32.toNatClampNeg 0) (Int32.toNatClampNeg 0) (Int32.toNatClampNeg 6))) (v1 + 2)) ((wrA h (v0 + 1) (va_cpy (h (v1 + 1)) (h (v0 + 1)) (Int32.toNatClampNeg 0) (Int32.toNatClampNeg 0) (Int32.toNatClampNeg 6))) (v0 + 2)) (Int32.toNatClampNeg 0) (Int32.toNatClampNeg 0) (Int32.toNatClampNeg 6))) (v0 + 3)) (Int32.toNatClampNeg 0) (Int32.toNatClampNeg 0) (Int32.toNatClampNeg 6))) (v0 + 4)) (Int32.toNatClampNeg 0) (Int32.toNatClampNeg 0) (Int32.toNatClampNeg 6))) v1 4))) : G X d 173 0 [some (.ref v0), some (.ref v1)] [] h := by
  refine g_aload_n d_173_0 rfl rfl ?_
  refine g_getf (ci := 7) (k := 0) d_173_1 wd_57 (Nat.le_of_ble_eq_true rfl) rfl o0 ?_
  refine g_iconst (v := 0) d_173_4 (by decide) ?_
  refine g_aload_n d_173_5 rfl rfl ?_
  refine g_getf (ci := 7) (k := 0) d_173_6 wd_57 (Nat.le_of_ble_eq_true rfl) rfl o1 ?_
  refine g_iconst (v := 0) d_173_9 (by decide) ?_
  refine g_bipush (v := 6) d_173_10 (by decide) ?_
  refine g_copy (n0 := 6) (n1 := 6) d_173_12 wd_351 ac_nat ac_st ac_in (Nat.le_of_ble_eq_true rfl) dd2 o3 o4 (by decide) (by decide) (by decide) (by decide) (by decide) ?_
  refine g_aload_n d_173_15 rfl rfl ?_
  refine g_getf (ci := 7) (k := 1) d_173_16 wd_58 (Nat.le_of_ble_eq_true rfl) rfl o0 ?_
  refine g_iconst (v := 0) d_173_19 (by decide) ?_
  refine g_aload_n d_173_20 rfl rfl ?_
  refine g_getf (ci := 7) (k := 1) d_173_21 wd_58 (Nat.le_of_ble_eq_true rfl) rfl o1 ?_
  refine g_iconst (v := 0) d_173_24 (by decide) ?_
  refine g_bipush (v := 6) d_173_25 (by decide) ?_
  refine g_copy (n0 := 6) (n1 := 6) d_173_27 wd_351 ac_nat ac_st ac_in (Nat.le_of_ble_eq_true rfl) dd2 o5 o6 (by decide) (by decide) (by decide) (by decide) (by decide) ?_
  refine g_aload_n d_173_30 rfl rfl ?_
  refine g_getf (ci := 7) (k := 2) d_173_31 wd_59 (Nat.le_of_ble_eq_true rfl) rfl o0 ?_
  refine g_iconst (v := 0) d_173_34 (by decide) ?_
  refine g_aload_n d_173_35 rfl rfl ?_
  refine g_getf (ci := 7) (k := 2) d_173_36 wd_59 (Nat.le_of_ble_eq_true rfl) rfl o1 ?_
  refine g_iconst (v := 0) d_173_39 (by decide) ?_
  refine g_bipush (v := 6) d_173_40 (by decide) ?_
  refine g_copy (n0 := 6) (n1 := 6) d_173_42 wd_351 ac_nat ac_st ac_in (Nat.le_of_ble_eq_true rfl) dd2 o7 o8 (by decide) (by decide) (by decide) (by decide) (by decide) ?_
  refine g_aload_n d_173_45 rfl rfl ?_
  refine g_getf (ci := 7) (k := 3) d_173_46 wd_60 (Nat.le_of_ble_eq_true rfl) rfl o0 ?_
  refine g_iconst (v := 0) d_173_49 (by decide) ?_
  refine g_aload_n d_173_50 rfl rfl ?_
  refine g_getf (ci := 7) (k := 3) d_173_51 wd_60 (Nat.le_of_ble_eq_true rfl) rfl o1 ?_
  refine g_iconst (v := 0) d_173_54 (by decide) ?_
  refine g_bipush (v := 6) d_173_55 (by decide) ?_
  refine g_copy (n0 := 6) (n1 := 6) d_173_57 wd_351 ac_nat ac_st ac_in (Nat.le_of_ble_eq_true rfl) dd2 o9 o10 (by decide) (by decide) (by decide) (by decide) (by decide) ?_
  refine g_aload_n d_173_60 rfl rfl ?_
  refine g_aload_n d_173_61 rfl rfl ?_
  refine g_getf (ci := 7) (k := 4) d_173_62 wd_61 (Nat.le_of_ble_eq_true rfl) rfl o0 ?_
  refine g_putf (ci := 7) (k := 4) d_173_65 wd_61 (Nat.le_of_ble_eq_true rfl) (Nat.le_of_ble_eq_true rfl) rfl rfl (Or.inl ⟨rfl, rfl⟩) o1 ?_
  exact g_retv d_173_68 rfl hq

