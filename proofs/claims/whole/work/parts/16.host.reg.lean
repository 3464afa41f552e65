/-! 147 PlayedTruth$Host.isSheet(I)Z -/
theorem k_147_0 {X : GX} {d : Nat} {h : Hp} {v0 : Int32} (kt : v0 < 0 → G X d 147 13 [none] [] h) (kf : ¬ v0 < 0 → G X d 147 4 [some (.int v0)] [] h) : G X d 147 0 [some (.int v0)] [] h := by
  refine g_iload_n d_147_0 rfl rfl ?_
  exact g_if_lt (tgt := 13) d_147_1 (by decide) (fun q => g_mask [false] (kt q)) kf

theorem k_147_4 {X : GX} {d : Nat} {h : Hp} {v0 : Int32} (kt : 4 ≤ v0 → G X d 147 13 [none] [] h) (kf : ¬ 4 ≤ v0 → G X d 147 9 [none] [] h) : G X d 147 4 [some (.int v0)] [] h := by
  refine g_iload_n d_147_4 rfl rfl ?_
  refine g_iconst (v := 4) d_147_5 (by decide) ?_
  exact g_icmp_ge (tgt := 13) d_147_6 (by decide) (fun q => g_mask [false] (kt q)) (fun q => g_mask [false] (kf q))

theorem k_147_9 {X : GX} {d : Nat} {h : Hp} (hq : RtX X (some (.int 1)) h) : G X d 147 9 [none] [] h := by
  refine g_iconst (v := 1) d_147_9 (by decide) ?_
  refine g_goto (tgt := 14) d_147_10 (by decide) ?_
  exact g_retz d_147_14 rfl z01_1 hq

theorem k_147_13 {X : GX} {d : Nat} {h : Hp} (hq : RtX X (some (.int 0)) h) : G X d 147 13 [none] [] h := by
  refine g_iconst (v := 0) d_147_13 (by decide) ?_
  exact g_retz d_147_14 rfl z01_0 hq

/-! 148 PlayedTruth$Host.makeSheet(III)I -/
theorem k_148_0 {X : GX} {d : Nat} {h : Hp} {v1 : Int32} {v2 : Int32} {v3 : Int32} (b0 : IA 51 v1) (b1 : IA 52 v1) (kk : G X d 148 17 [some (.ref 50), some (.int v1), none, none, some (.int 0)] [] (wr (wr h 51 (Int32.toNatClampNeg v1) v2) 52 (Int32.toNatClampNeg v1) v3)) : G X d 148 0 [some (.ref 50), some (.int v1), some (.int v2), some (.int v3), none] [] h := by
  refine g_aload_n d_148_0 rfl rfl ?_
  refine g_getf (ci := 2) (k := 0) d_148_1 wd_108 (Nat.le_of_ble_eq_true rfl) rfl rfl ?_
  refine g_iload_n d_148_4 rfl rfl ?_
  refine g_iload_n d_148_5 rfl rfl ?_
  refine g_iast d_148_6 b0 ?_
  refine g_aload_n d_148_7 rfl rfl ?_
  refine g_getf (ci := 2) (k := 1) d_148_8 wd_110 (Nat.le_of_ble_eq_true rfl) rfl rfl ?_
  refine g_iload_n d_148_11 rfl rfl ?_
  refine g_iload_n d_148_12 rfl rfl ?_
  refine g_iast d_148_13 b1 ?_
  refine g_iconst (v := 0) d_148_14 (by decide) ?_
  refine g_istore d_148_15 (Nat.le_of_ble_eq_true rfl) rfl ?_
  exact g_mask [true, true, false, false, true] kk

theorem k_148_17 {X : GX} {d : Nat} {h : Hp} {v1 : Int32} {v4 : Int32} (kt : 40 ≤ v4 → G X d 148 40 [none, none, none, none, none] [] h) (kf : ¬ 40 ≤ v4 → G X d 148 24 [some (.ref 50), some (.int v1), none, none, some (.int v4)] [] h) : G X d 148 17 [some (.ref 50), some (.int v1), none, none, some (.int v4)] [] h := by
  refine g_iload d_148_17 rfl ?_
  refine g_bipush (v := 40) d_148_19 (by decide) ?_
  exact g_icmp_ge (tgt := 40) d_148_21 (by decide) (fun q => g_mask [false, false, false, false, false] (kt q)) kf

theorem k_148_24 {X : GX} {d : Nat} {h : Hp} {v1 : Int32} {v4 : Int32} (b0 : vp_in v1 4) (b1 : IA (54 + Int32.toNatClampNeg v1) v4) (kk : G X d 148 17 [some (.ref 50), some (.int v1), none, none, some (.int (v4 + 1))] [] (wr h (54 + Int32.toNatClampNeg v1) (Int32.toNatClampNeg v4) 0)) : G X d 148 24 [some (.ref 50), some (.int v1), none, none, some (.int v4)] [] h := by
  refine g_aload_n d_148_24 rfl rfl ?_
  refine g_getf (ci := 2) (k := 2) d_148_25 wd_111 (Nat.le_of_ble_eq_true rfl) rfl rfl ?_
  refine g_iload_n d_148_28 rfl rfl ?_
  refine g_aald (tt := 1) d_148_29 (by decide) rfl b0 ?_
  refine g_iload d_148_30 rfl ?_
  refine g_iconst (v := 0) d_148_32 (by decide) ?_
  refine g_iast d_148_33 b1 ?_
  refine g_iinc (w := 1) d_148_34 rfl (by decide) (Nat.le_of_ble_eq_true rfl) rfl ?_
  refine g_goto (tgt := 17) d_148_37 (by decide) ?_
  exact kk

theorem k_148_40 {X : GX} {d : Nat} {h : Hp} (hq : RtX X (some (.int 1)) h) : G X d 148 40 [none, none, none, none, none] [] h := by
  refine g_iconst (v := 1) d_148_40 (by decide) ?_
  exact g_reti d_148_41 rfl hq

/-! 150 PlayedTruth$Host.isItem(II)Z -/
theorem k_150_0 {X : GX} {d : Nat} {h : Hp} {v1 : Int32} {v2 : Int32} (kt : v2 < 0 → G X d 150 18 [none, none, none] [] h) (kf : ¬ v2 < 0 → G X d 150 4 [some (.ref 50), some (.int v1), some (.int v2)] [] h) : G X d 150 0 [some (.ref 50), some (.int v1), some (.int v2)] [] h := by
  refine g_iload_n d_150_0 rfl rfl ?_
  exact g_if_lt (tgt := 18) d_150_1 (by decide) (fun q => g_mask [false, false, false] (kt q)) kf

theorem k_150_4 {X : GX} {d : Nat} {h : Hp} {v1 : Int32} {v2 : Int32} (b0 : IA 52 v1) (kt : (h 52 (Int32.toNatClampNeg v1)) ≤ v2 → G X d 150 18 [none, none, none] [] h) (kf : ¬ (h 52 (Int32.toNatClampNeg v1)) ≤ v2 → G X d 150 14 [none, none, none] [] h) : G X d 150 4 [some (.ref 50), some (.int v1), some (.int v2)] [] h := by
  refine g_iload_n d_150_4 rfl rfl ?_
  refine g_aload_n d_150_5 rfl rfl ?_
  refine g_getf (ci := 2) (k := 1) d_150_6 wd_110 (Nat.le_of_ble_eq_true rfl) rfl rfl ?_
  refine g_iload_n d_150_9 rfl rfl ?_
  refine g_iald d_150_10 b0 ?_
  exact g_icmp_ge (tgt := 18) d_150_11 (by decide) (fun q => g_mask [false, false, false] (kt q)) (fun q => g_mask [false, false, false] (kf q))

theorem k_150_14 {X : GX} {d : Nat} {h : Hp} (hq : RtX X (some (.int 1)) h) : G X d 150 14 [none, none, none] [] h := by
  refine g_iconst (v := 1) d_150_14 (by decide) ?_
  refine g_goto (tgt := 19) d_150_15 (by decide) ?_
  exact g_retz d_150_19 rfl z01_1 hq

theorem k_150_18 {X : GX} {d : Nat} {h : Hp} (hq : RtX X (some (.int 0)) h) : G X d 150 18 [none, none, none] [] h := by
  refine g_iconst (v := 0) d_150_18 (by decide) ?_
  exact g_retz d_150_19 rfl z01_0 hq

/-! 151 PlayedTruth$Host.narrowed(II)I -/
theorem k_151_0 {X : GX} {d : Nat} {h : Hp} {v0 : Int32} {v1 : Int32} (k0 : v0 = 0 → G X d 151 36 [none, some (.int v1)] [] h) (k1 : v0 = 1 → G X d 151 39 [none, some (.int v1)] [] h) (k2 : v0 = 2 → G X d 151 52 [none, some (.int v1)] [] h) (k3 : v0 = 3 → G X d 151 52 [none, some (.int v1)] [] h) (k4 : v0 = 4 → G X d 151 42 [none, some (.int v1)] [] h) (kd : ¬ v0 = 0 → ¬ v0 = 1 → ¬ v0 = 2 → ¬ v0 = 3 → ¬ v0 = 4 → G X d 151 52 [none, some (.int v1)] [] h) : G X d 151 0 [some (.int v0), some (.int v1)] [] h := by
  refine g_iload_n d_151_0 rfl rfl ?_
  exact g_table (tls := [(0, 36), (1, 39), (2, 52), (3, 52), (4, 42)]) (df := 52) d_151_1 (by decide +kernel) ⟨fun q => g_mask [false, true] (k0 q), fun n0 => ⟨fun q => g_mask [false, true] (k1 q), fun n1 => ⟨fun q => g_mask [false, true] (k2 q), fun n2 => ⟨fun q => g_mask [false, true] (k3 q), fun n3 => ⟨fun q => g_mask [false, true] (k4 q), fun n4 => (g_mask [false, true] (kd n0 n1 n2 n3 n4))⟩⟩⟩⟩⟩

theorem k_151_36 {X : GX} {d : Nat} {h : Hp} {v1 : Int32} (hq : RtX X (some (.int ((Int32.toInt8 v1).toInt32))) h) : G X d 151 36 [none, some (.int v1)] [] h := by
  refine g_iload_n d_151_36 rfl rfl ?_
  refine g_i2b d_151_37 ?_
  exact g_reti d_151_38 rfl hq

theorem k_151_39 {X : GX} {d : Nat} {h : Hp} {v1 : Int32} (hq : RtX X (some (.int ((Int32.toInt16 v1).toInt32))) h) : G X d 151 39 [none, some (.int v1)] [] h := by
  refine g_iload_n d_151_39 rfl rfl ?_
  refine g_i2s d_151_40 ?_
  exact g_reti d_151_41 rfl hq

theorem k_151_42 {X : GX} {d : Nat} {h : Hp} {v1 : Int32} (kt : v1 = 0 → G X d 151 50 [none, none] [] h) (kf : ¬ v1 = 0 → G X d 151 46 [none, none] [] h) : G X d 151 42 [none, some (.int v1)] [] h := by
  refine g_iload_n d_151_42 rfl rfl ?_
  exact g_if_eq (tgt := 50) d_151_43 (by decide) (fun q => g_mask [false, false] (kt q)) (fun q => g_mask [false, false] (kf q))

theorem k_151_46 {X : GX} {d : Nat} {h : Hp} (hq : RtX X (some (.int 1)) h) : G X d 151 46 [none, none] [] h := by
  refine g_iconst (v := 1) d_151_46 (by decide) ?_
  refine g_goto (tgt := 51) d_151_47 (by decide) ?_
  exact g_reti d_151_51 rfl hq

theorem k_151_50 {X : GX} {d : Nat} {h : Hp} (hq : RtX X (some (.int 0)) h) : G X d 151 50 [none, none] [] h := by
  refine g_iconst (v := 0) d_151_50 (by decide) ?_
  exact g_reti d_151_51 rfl hq

theorem k_151_52 {X : GX} {d : Nat} {h : Hp} {v1 : Int32} (hq : RtX X (some (.int v1)) h) : G X d 151 52 [none, some (.int v1)] [] h := by
  refine g_iload_n d_151_52 rfl rfl ?_
  exact g_reti d_151_53 rfl hq

/-! 153 PlayedTruth$Host.refusalOf(II)I -/
theorem k_153_0 {X : GX} {d : Nat} {h : Hp} {v1 : Int32} {v2 : Int32} (b0 : IA 51 v1) (kt : ¬ (h 51 (Int32.toNatClampNeg v1)) = ((-1)) → G X d 153 13 [some (.ref 50), some (.int v1), some (.int v2)] [] h) (kf : (h 51 (Int32.toNatClampNeg v1)) = ((-1)) → G X d 153 10 [none, none, none] [] h) : G X d 153 0 [some (.ref 50), some (.int v1), some (.int v2)] [] h := by
  refine g_aload_n d_153_0 rfl rfl ?_
  refine g_getf (ci := 2) (k := 0) d_153_1 wd_108 (Nat.le_of_ble_eq_true rfl) rfl rfl ?_
  refine g_iload_n d_153_4 rfl rfl ?_
  refine g_iald d_153_5 b0 ?_
  refine g_iconst (v := (-1)) d_153_6 (by decide) ?_
  exact g_icmp_ne (tgt := 13) d_153_7 (by decide) kt (fun q => g_mask [false, false, false] (kf q))

theorem k_153_10 {X : GX} {d : Nat} {h : Hp} (hq : RtX X (some (.int ((-11)))) h) : G X d 153 10 [none, none, none] [] h := by
  refine g_bipush (v := (-11)) d_153_10 (by decide) ?_
  exact g_reti d_153_12 rfl hq

theorem k_153_13 {X : GX} {d : Nat} {h : Hp} {v1 : Int32} {v2 : Int32} (b0 : IA 51 v1) (kt : ¬ (h 51 (Int32.toNatClampNeg v1)) = v2 → G X d 153 27 [none, none, none] [] h) (kf : (h 51 (Int32.toNatClampNeg v1)) = v2 → G X d 153 23 [none, none, none] [] h) : G X d 153 13 [some (.ref 50), some (.int v1), some (.int v2)] [] h := by
  refine g_aload_n d_153_13 rfl rfl ?_
  refine g_getf (ci := 2) (k := 0) d_153_14 wd_108 (Nat.le_of_ble_eq_true rfl) rfl rfl ?_
  refine g_iload_n d_153_17 rfl rfl ?_
  refine g_iald d_153_18 b0 ?_
  refine g_iload_n d_153_19 rfl rfl ?_
  exact g_icmp_ne (tgt := 27) d_153_20 (by decide) (fun q => g_mask [false, false, false] (kt q)) (fun q => g_mask [false, false, false] (kf q))

theorem k_153_23 {X : GX} {d : Nat} {h : Hp} (hq : RtX X (some (.int 0)) h) : G X d 153 23 [none, none, none] [] h := by
  refine g_iconst (v := 0) d_153_23 (by decide) ?_
  refine g_goto (tgt := 29) d_153_24 (by decide) ?_
  exact g_reti d_153_29 rfl hq

theorem k_153_27 {X : GX} {d : Nat} {h : Hp} (hq : RtX X (some (.int ((-13)))) h) : G X d 153 27 [none, none, none] [] h := by
  refine g_bipush (v := (-13)) d_153_27 (by decide) ?_
  exact g_reti d_153_29 rfl hq

/-! 158 PlayedTruth$Host.isShelf(I)Z -/
theorem k_158_0 {X : GX} {d : Nat} {h : Hp} {v0 : Int32} (kt : v0 < 0 → G X d 158 13 [none] [] h) (kf : ¬ v0 < 0 → G X d 158 4 [some (.int v0)] [] h) : G X d 158 0 [some (.int v0)] [] h := by
  refine g_iload_n d_158_0 rfl rfl ?_
  exact g_if_lt (tgt := 13) d_158_1 (by decide) (fun q => g_mask [false] (kt q)) kf

theorem k_158_4 {X : GX} {d : Nat} {h : Hp} {v0 : Int32} (kt : 4 ≤ v0 → G X d 158 13 [none] [] h) (kf : ¬ 4 ≤ v0 → G X d 158 9 [none] [] h) : G X d 158 4 [some (.int v0)] [] h := by
  refine g_iload_n d_158_4 rfl rfl ?_
  refine g_iconst (v := 4) d_158_5 (by decide) ?_
  exact g_icmp_ge (tgt := 13) d_158_6 (by decide) (fun q => g_mask [false] (kt q)) (fun q => g_mask [false] (kf q))

theorem k_158_9 {X : GX} {d : Nat} {h : Hp} (hq : RtX X (some (.int 1)) h) : G X d 158 9 [none] [] h := by
  refine g_iconst (v := 1) d_158_9 (by decide) ?_
  refine g_goto (tgt := 14) d_158_10 (by decide) ?_
  exact g_retz d_158_14 rfl z01_1 hq

theorem k_158_13 {X : GX} {d : Nat} {h : Hp} (hq : RtX X (some (.int 0)) h) : G X d 158 13 [none] [] h := by
  refine g_iconst (v := 0) d_158_13 (by decide) ?_
  exact g_retz d_158_14 rfl z01_0 hq

/-! 159 PlayedTruth$Host.hold(IIII)I -/
theorem k_159_0 {X : GX} {d : Nat} {h : Hp} {v1 : Int32} {v2 : Int32} {v3 : Int32} {v4 : Int32} (b0 : IA 58 v1) (b1 : IA 59 v1) (b2 : IA 60 v1) (hq : RtX X (some (.int 1)) (wr (wr (wr h 58 (Int32.toNatClampNeg v1) v2) 59 (Int32.toNatClampNeg v1) v3) 60 (Int32.toNatClampNeg v1) v4)) : G X d 159 0 [some (.ref 50), some (.int v1), some (.int v2), some (.int v3), some (.int v4)] [] h := by
  refine g_aload_n d_159_0 rfl rfl ?_
  refine g_getf (ci := 2) (k := 3) d_159_1 wd_114 (Nat.le_of_ble_eq_true rfl) rfl rfl ?_
  refine g_iload_n d_159_4 rfl rfl ?_
  refine g_iload_n d_159_5 rfl rfl ?_
  refine g_iast d_159_6 b0 ?_
  refine g_aload_n d_159_7 rfl rfl ?_
  refine g_getf (ci := 2) (k := 4) d_159_8 wd_116 (Nat.le_of_ble_eq_true rfl) rfl rfl ?_
  refine g_iload_n d_159_11 rfl rfl ?_
  refine g_iload_n d_159_12 rfl rfl ?_
  refine g_iast d_159_13 b1 ?_
  refine g_aload_n d_159_14 rfl rfl ?_
  refine g_getf (ci := 2) (k := 5) d_159_15 wd_118 (Nat.le_of_ble_eq_true rfl) rfl rfl ?_
  refine g_iload_n d_159_18 rfl rfl ?_
  refine g_iload d_159_19 rfl ?_
  refine g_iast d_159_21 b2 ?_
  refine g_iconst (v := 1) d_159_22 (by decide) ?_
  exact g_reti d_159_23 rfl hq

/-! 160 PlayedTruth$Host.holdRow(II)I -/
theorem k_160_0 {X : GX} {d : Nat} {h : Hp} {v1 : Int32} {v2 : Int32} (b0 : IA 51 v2) (kt : ¬ (h 51 (Int32.toNatClampNeg v2)) = ((-1)) → G X d 160 14 [some (.ref 50), some (.int v1), some (.int v2), none] [] h) (kf : (h 51 (Int32.toNatClampNeg v2)) = ((-1)) → G X d 160 10 [some (.ref 50), some (.int v1), some (.int v2), none] [] h) : G X d 160 0 [some (.ref 50), some (.int v1), some (.int v2), none] [] h := by
  refine g_aload_n d_160_0 rfl rfl ?_
  refine g_getf (ci := 2) (k := 0) d_160_1 wd_108 (Nat.le_of_ble_eq_true rfl) rfl rfl ?_
  refine g_iload_n d_160_4 rfl rfl ?_
  refine g_iald d_160_5 b0 ?_
  refine g_iconst (v := (-1)) d_160_6 (by decide) ?_
  exact g_icmp_ne (tgt := 14) d_160_7 (by decide) kt kf

theorem k_160_10 {X : GX} {d : Nat} {h : Hp} {v1 : Int32} {v2 : Int32} {d' : Nat} {Q' : Int32 → Hp → Prop} (b0 : IA 51 v2) (b1 : IA 52 v2) (hdd : d' < d) (hC : CI d' 159 [.ref 50, .int v1, .int 0, .int (h 51 (Int32.toNatClampNeg v2)), .int (h 52 (Int32.toNatClampNeg v2))] h Q') (kk : ∀ x h', Q' x h' → G X d 160 34 [none, none, none, none] [.int x] h') : G X d 160 10 [some (.ref 50), some (.int v1), some (.int v2), none] [] h := by
  refine g_iconst (v := 0) d_160_10 (by decide) ?_
  refine g_goto (tgt := 15) d_160_11 (by decide) ?_
  refine g_istore_n d_160_15 rfl (Nat.le_of_ble_eq_true rfl) rfl ?_
  refine g_aload_n d_160_16 rfl rfl ?_
  refine g_iload_n d_160_17 rfl rfl ?_
  refine g_iload_n d_160_18 rfl rfl ?_
  refine g_aload_n d_160_19 rfl rfl ?_
  refine g_getf (ci := 2) (k := 0) d_160_20 wd_108 (Nat.le_of_ble_eq_true rfl) rfl rfl ?_
  refine g_iload_n d_160_23 rfl rfl ?_
  refine g_iald d_160_24 b0 ?_
  refine g_aload_n d_160_25 rfl rfl ?_
  refine g_getf (ci := 2) (k := 1) d_160_26 wd_110 (Nat.le_of_ble_eq_true rfl) rfl rfl ?_
  refine g_iload_n d_160_29 rfl rfl ?_
  refine g_iald d_160_30 b1 ?_
  exact g_callVI (mj := 159) 2 [.int v1, .int 0, .int (h 51 (Int32.toNatClampNeg v2)), .int (h 52 (Int32.toNatClampNeg v2))] [] d_160_31 wd_332 mo_159 mc_159 mv_159 rfl rfl rfl (Nat.le_of_ble_eq_true rfl) rfl hdd hC (fun x h' q => g_mask [false, false, false, false] (kk x h' q))

theorem k_160_14 {X : GX} {d : Nat} {h : Hp} {v1 : Int32} {v2 : Int32} {d' : Nat} {Q' : Int32 → Hp → Prop} (b0 : IA 51 v2) (b1 : IA 52 v2) (hdd : d' < d) (hC : CI d' 159 [.ref 50, .int v1, .int 2, .int (h 51 (Int32.toNatClampNeg v2)), .int (h 52 (Int32.toNatClampNeg v2))] h Q') (kk : ∀ x h', Q' x h' → G X d 160 34 [none, none, none, none] [.int x] h') : G X d 160 14 [some (.ref 50), some (.int v1), some (.int v2), none] [] h := by
  refine g_iconst (v := 2) d_160_14 (by decide) ?_
  refine g_istore_n d_160_15 rfl (Nat.le_of_ble_eq_true rfl) rfl ?_
  refine g_aload_n d_160_16 rfl rfl ?_
  refine g_iload_n d_160_17 rfl rfl ?_
  refine g_iload_n d_160_18 rfl rfl ?_
  refine g_aload_n d_160_19 rfl rfl ?_
  refine g_getf (ci := 2) (k := 0) d_160_20 wd_108 (Nat.le_of_ble_eq_true rfl) rfl rfl ?_
  refine g_iload_n d_160_23 rfl rfl ?_
  refine g_iald d_160_24 b0 ?_
  refine g_aload_n d_160_25 rfl rfl ?_
  refine g_getf (ci := 2) (k := 1) d_160_26 wd_110 (Nat.le_of_ble_eq_true rfl) rfl rfl ?_
  refine g_iload_n d_160_29 rfl rfl ?_
  refine g_iald d_160_30 b1 ?_
  exact g_callVI (mj := 159) 2 [.int v1, .int 2, .int (h 51 (Int32.toNatClampNeg v2)), .int (h 52 (Int32.toNatClampNeg v2))] [] d_160_31 wd_332 mo_159 mc_159 mv_159 rfl rfl rfl (Nat.le_of_ble_eq_true rfl) rfl hdd hC (fun x h' q => g_mask [false, false, false, false] (kk x h' q))

theorem k_160_34 {X : GX} {d : Nat} {h : Hp} {s0 : Int32} (hq : RtX X (some (.int s0)) h) : G X d 160 34 [none, none, none, none] [.int s0] h := by
  exact g_reti d_160_34 rfl hq

/-! 164 PlayedTruth$Acting.forgetBodies()V -/
theorem k_164_0 {X : GX} {d : Nat} {h : Hp} (hq : RtX X none (wr h 61 1 0)) : G X d 164 0 [some (.ref 61)] [] h := by
  refine g_aload_n d_164_0 rfl rfl ?_
  refine g_iconst (v := 0) d_164_1 (by decide) ?_
  refine g_putf (ci := 0) (k := 1) d_164_2 wd_123 (Nat.le_of_ble_eq_true rfl) (Nat.le_of_ble_eq_true rfl) rfl rfl (Or.inl ⟨rfl, rfl⟩) rfl ?_
  exact g_retv d_164_5 rfl hq

/-! 165 PlayedTruth$Acting.perform(IIIII)I -/
theorem k_165_0 {X : GX} {d : Nat} {h : Hp} {v1 : Int32} {v2 : Int32} {v3 : Int32} {v4 : Int32} {v5 : Int32} {d' : Nat} {Q' : Int32 → Hp → Prop} (hdd : d' < d) (hC : CI d' 166 [.ref 61, .int v4, .int v5, .int 0] (wr (wr (wr (wr h 61 2 0) 61 3 v1) 61 4 v2) 61 5 v3) Q') (kk : ∀ x h', Q' x h' → G X d 165 29 [some (.ref 61), none, none, none, none, none, none] [.int x] h') : G X d 165 0 [some (.ref 61), some (.int v1), some (.int v2), some (.int v3), some (.int v4), some (.int v5), none] [] h := by
  refine g_aload_n d_165_0 rfl rfl ?_
  refine g_iconst (v := 0) d_165_1 (by decide) ?_
  refine g_putf (ci := 0) (k := 2) d_165_2 wd_125 (Nat.le_of_ble_eq_true rfl) (Nat.le_of_ble_eq_true rfl) rfl rfl (Or.inr ⟨rfl, rfl, z01_0⟩) rfl ?_
  refine g_aload_n d_165_5 rfl rfl ?_
  refine g_iload_n d_165_6 rfl rfl ?_
  refine g_putf (ci := 0) (k := 3) d_165_7 wd_126 (Nat.le_of_ble_eq_true rfl) (Nat.le_of_ble_eq_true rfl) rfl rfl (Or.inl ⟨rfl, rfl⟩) rfl ?_
  refine g_aload_n d_165_10 rfl rfl ?_
  refine g_iload_n d_165_11 rfl rfl ?_
  refine g_putf (ci := 0) (k := 4) d_165_12 wd_127 (Nat.le_of_ble_eq_true rfl) (Nat.le_of_ble_eq_true rfl) rfl rfl (Or.inl ⟨rfl, rfl⟩) rfl ?_
  refine g_aload_n d_165_15 rfl rfl ?_
  refine g_iload_n d_165_16 rfl rfl ?_
  refine g_putf (ci := 0) (k := 5) d_165_17 wd_128 (Nat.le_of_ble_eq_true rfl) (Nat.le_of_ble_eq_true rfl) rfl rfl (Or.inl ⟨rfl, rfl⟩) rfl ?_
  refine g_aload_n d_165_20 rfl rfl ?_
  refine g_iload d_165_21 rfl ?_
  refine g_iload d_165_23 rfl ?_
  refine g_iconst (v := 0) d_165_25 (by decide) ?_
  exact g_callVI (mj := 166) 0 [.int v4, .int v5, .int 0] [] d_165_26 wd_339 mo_166 mc_166 mv_166 rfl rfl rfl (Nat.le_of_ble_eq_true rfl) rfl hdd hC (fun x h' q => g_mask [true, false, false, false, false, false, false] (kk x h' q))

theorem k_165_29 {X : GX} {d : Nat} {h : Hp} {s0 : Int32} (kt : (h 61 2) = 0 → G X d 165 43 [none, none, none, none, none, none, some (.int s0)] [] h) (kf : ¬ (h 61 2) = 0 → G X d 165 38 [none, none, none, none, none, none, none] [] h) : G X d 165 29 [some (.ref 61), none, none, none, none, none, none] [.int s0] h := by
  refine g_istore d_165_29 (Nat.le_of_ble_eq_true rfl) rfl ?_
  refine g_aload_n d_165_31 rfl rfl ?_
  refine g_getf (ci := 0) (k := 2) d_165_32 wd_125 (Nat.le_of_ble_eq_true rfl) rfl rfl ?_
  exact g_if_eq (tgt := 43) d_165_35 (by decide) (fun q => g_mask [false, false, false, false, false, false, true] (kt q)) (fun q => g_mask [false, false, false, false, false, false, false] (kf q))

theorem k_165_38 {X : GX} {d : Nat} {h : Hp} (hq : RtX X (some (.int ((-15)))) h) : G X d 165 38 [none, none, none, none, none, none, none] [] h := by
  refine g_bipush (v := (-15)) d_165_38 (by decide) ?_
  refine g_goto (tgt := 45) d_165_40 (by decide) ?_
  exact g_reti d_165_45 rfl hq

theorem k_165_43 {X : GX} {d : Nat} {h : Hp} {v6 : Int32} (hq : RtX X (some (.int v6)) h) : G X d 165 43 [none, none, none, none, none, none, some (.int v6)] [] h := by
  refine g_iload d_165_43 rfl ?_
  exact g_reti d_165_45 rfl hq

/-! 166 PlayedTruth$Acting.does(III)I -/
theorem k_166_0 {X : GX} {d : Nat} {h : Hp} {v1 : Int32} {v2 : Int32} {v3 : Int32} {d' : Nat} {Q' : Int32 → Hp → Prop} (b0 : vp_in (((h 61 3) * 4) + v1) 24) (hdd : d' < d) (hC : CI d' 167 [.ref 61, .int (bodyOf (Int32.toNatClampNeg (((h 61 3) * 4) + v1))), .int v2, .int (v3 + 1)] h Q') (kk : ∀ x h', Q' x h' → G X d 166 20 [none, none, none, none] [.int x] h') : G X d 166 0 [some (.ref 61), some (.int v1), some (.int v2), some (.int v3)] [] h := by
  refine g_aload_n d_166_0 rfl rfl ?_
  refine g_gets d_166_1 wd_340 ?_
  refine g_aload_n d_166_4 rfl rfl ?_
  refine g_getf (ci := 0) (k := 3) d_166_5 wd_126 (Nat.le_of_ble_eq_true rfl) rfl rfl ?_
  refine g_iconst (v := 4) d_166_8 (by decide) ?_
  refine g_imul d_166_9 ?_
  refine g_iload_n d_166_10 rfl rfl ?_
  refine g_iadd d_166_11 ?_
  refine g_tld d_166_12 b0 ?_
  refine g_iload_n d_166_13 rfl rfl ?_
  refine g_iload_n d_166_14 rfl rfl ?_
  refine g_iconst (v := 1) d_166_15 (by decide) ?_
  refine g_iadd d_166_16 ?_
  exact g_callVI (mj := 167) 0 [.int (bodyOf (Int32.toNatClampNeg (((h 61 3) * 4) + v1))), .int v2, .int (v3 + 1)] [] d_166_17 wd_341 mo_167 mc_167 mv_167 rfl rfl rfl (Nat.le_of_ble_eq_true rfl) rfl hdd hC (fun x h' q => g_mask [false, false, false, false] (kk x h' q))

theorem k_166_20 {X : GX} {d : Nat} {h : Hp} {s0 : Int32} (hq : RtX X (some (.int s0)) h) : G X d 166 20 [none, none, none, none] [.int s0] h := by
  exact g_reti d_166_20 rfl hq

/-! 167 PlayedTruth$Acting.run(III)I -/
theorem k_167_0 {X : GX} {d : Nat} {h : Hp} {v1 : Int32} {v2 : Int32} {v3 : Int32} (kt : ¬ (h 61 2) = 0 → G X d 167 13 [none, none, none, none, none] [] h) (kf : (h 61 2) = 0 → G X d 167 7 [some (.ref 61), some (.int v1), some (.int v2), some (.int v3), none] [] h) : G X d 167 0 [some (.ref 61), some (.int v1), some (.int v2), some (.int v3), none] [] h := by
  refine g_aload_n d_167_0 rfl rfl ?_
  refine g_getf (ci := 0) (k := 2) d_167_1 wd_125 (Nat.le_of_ble_eq_true rfl) rfl rfl ?_
  exact g_if_ne (tgt := 13) d_167_4 (by decide) (fun q => g_mask [false, false, false, false, false] (kt q)) kf

theorem k_167_7 {X : GX} {d : Nat} {h : Hp} {v1 : Int32} {v2 : Int32} {v3 : Int32} (kt : v3 ≤ 20 → G X d 167 15 [some (.ref 61), some (.int v1), some (.int v2), some (.int v3), none] [] h) (kf : ¬ v3 ≤ 20 → G X d 167 13 [none, none, none, none, none] [] h) : G X d 167 7 [some (.ref 61), some (.int v1), some (.int v2), some (.int v3), none] [] h := by
  refine g_iload_n d_167_7 rfl rfl ?_
  refine g_bipush (v := 20) d_167_8 (by decide) ?_
  exact g_icmp_le (tgt := 15) d_167_10 (by decide) kt (fun q => g_mask [false, false, false, false, false] (kf q))

theorem k_167_13 {X : GX} {d : Nat} {h : Hp} (hq : RtX X (some (.int 0)) h) : G X d 167 13 [none, none, none, none, none] [] h := by
  refine g_iconst (v := 0) d_167_13 (by decide) ?_
  exact g_reti d_167_14 rfl hq

theorem k_167_15 {X : GX} {d : Nat} {h : Hp} {v1 : Int32} {v2 : Int32} {v3 : Int32} (kt : 30 ≤ (h 61 1) → G X d 167 41 [some (.ref 61), some (.int v1), some (.int v2), some (.int v3), none] [] h) (kf : ¬ 30 ≤ (h 61 1) → G X d 167 24 [some (.ref 61), some (.int v1), some (.int v2), some (.int v3), none] [] h) : G X d 167 15 [some (.ref 61), some (.int v1), some (.int v2), some (.int v3), none] [] h := by
  refine g_aload_n d_167_15 rfl rfl ?_
  refine g_getf (ci := 0) (k := 1) d_167_16 wd_123 (Nat.le_of_ble_eq_true rfl) rfl rfl ?_
  refine g_bipush (v := 30) d_167_19 (by decide) ?_
  exact g_icmp_ge (tgt := 41) d_167_21 (by decide) kt kf

theorem k_167_24 {X : GX} {d : Nat} {h : Hp} {v1 : Int32} {v2 : Int32} {v3 : Int32} (b0 : IA 62 (h 61 1)) (k0 : v1 = 10 → G X d 167 144 [some (.ref 61), none, some (.int v2), none, none] [] (wr (wr h 61 1 ((h 61 1) + 1)) 62 (Int32.toNatClampNeg (h 61 1)) v1)) (k1 : v1 = 11 → G X d 167 154 [some (.ref 61), none, some (.int v2), none, some (.int (v3 + 1))] [] (wr (wr h 61 1 ((h 61 1) + 1)) 62 (Int32.toNatClampNeg (h 61 1)) v1)) (k2 : v1 = 12 → G X d 167 168 [some (.ref 61), none, some (.int v2), none, none] [] (wr (wr h 61 1 ((h 61 1) + 1)) 62 (Int32.toNatClampNeg (h 61 1)) v1)) (k3 : v1 = 13 → G X d 167 185 [some (.ref 61), none, some (.int v2), none, some (.int (v3 + 1))] [] (wr (wr h 61 1 ((h 61 1) + 1)) 62 (Int32.toNatClampNeg (h 61 1)) v1)) (k4 : v1 = 20 → G X d 167 203 [some (.ref 61), none, some (.int v2), none, some (.int (v3 + 1))] [] (wr (wr h 61 1 ((h 61 1) + 1)) 62 (Int32.toNatClampNeg (h 61 1)) v1)) (k5 : v1 = 30 → G X d 167 216 [some (.ref 61), none, some (.int v2), none, some (.int (v3 + 1))] [] (wr (wr h 61 1 ((h 61 1) + 1)) 62 (Int32.toNatClampNeg (h 61 1)) v1)) (k6 : v1 = 40 → G X d 167 228 [some (.ref 61), none, some (.int v2), none, some (.int (v3 + 1))] [] (wr (wr h 61 1 ((h 61 1) + 1)) 62 (Int32.toNatClampNeg (h 61 1)) v1)) (k7 : v1 = 50 → G X d 167 241 [some (.ref 61), none, some (.int v2), none, some (.int (v3 + 1))] [] (wr (wr h 61 1 ((h 61 1) + 1)) 62 (Int32.toNatClampNeg (h 61 1)) v1)) (k8 : v1 = 51 → G X d 167 254 [some (.ref 61), none, some (.int v2), none, some (.int (v3 + 1))] [] (wr (wr h 61 1 ((h 61 1) + 1)) 62 (Int32.toNatClampNeg (h 61 1)) v1)) (k9 : v1 = 60 → G X d 167 276 [some (.ref 61), none, some (.int v2), none, some (.int (v3 + 1))] [] (wr (wr h 61 1 ((h 61 1) + 1)) 62 (Int32.toNatClampNeg (h 61 1)) v1)) (k10 : v1 = 61 → G X d 167 288 [some (.ref 61), none, some (.int v2), none, some (.int (v3 + 1))] [] (wr (wr h 61 1 ((h 61 1) + 1)) 62 (Int32.toNatClampNeg (h 61 1)) v1)) (kd : ¬ v1 = 10 → ¬ v1 = 11 → ¬ v1 = 12 → ¬ v1 = 13 → ¬ v1 = 20 → ¬ v1 = 30 → ¬ v1 = 40 → ¬ v1 = 50 → ¬ v1 = 51 → ¬ v1 = 60 → ¬ v1 = 61 → G X d 167 310 [none, none, none, none, none] [] (wr (wr h 61 1 ((h 61 1) + 1)) 62 (Int32.toNatClampNeg (h 61 1)) v1)) : G X d 167 24 [some (.ref 61), some (.int v1), some (.int v2), some (.int v3), none] [] h := by
  refine g_aload_n d_167_24 rfl rfl ?_
  refine g_getf (ci := 0) (k := 0) d_167_25 wd_121 (Nat.le_of_ble_eq_true rfl) rfl rfl ?_
  refine g_aload_n d_167_28 rfl rfl ?_
  refine g_dup d_167_29 rfl ?_
  refine g_getf (ci := 0) (k := 1) d_167_30 wd_123 (Nat.le_of_ble_eq_true rfl) rfl rfl ?_
  refine g_dup_x1 d_167_33 rfl rfl ?_
  refine g_iconst (v := 1) d_167_34 (by decide) ?_
  refine g_iadd d_167_35 ?_
  refine g_putf (ci := 0) (k := 1) d_167_36 wd_123 (Nat.le_of_ble_eq_true rfl) (Nat.le_of_ble_eq_true rfl) rfl rfl (Or.inl ⟨rfl, rfl⟩) rfl ?_
  refine g_iload_n d_167_39 rfl rfl ?_
  refine g_iast d_167_40 b0 ?_
  refine g_iload_n d_167_41 rfl rfl ?_
  refine g_iconst (v := 1) d_167_42 (by decide) ?_
  refine g_iadd d_167_43 ?_
  refine g_istore d_167_44 (Nat.le_of_ble_eq_true rfl) rfl ?_
  refine g_iload_n d_167_46 rfl rfl ?_
  exact g_lookup (tls := [(10, 144), (11, 154), (12, 168), (13, 185), (20, 203), (30, 216), (40, 228), (50, 241), (51, 254), (60, 276), (61, 288)]) (df := 310) d_167_47 (by decide +kernel) ⟨fun q => g_mask [true, false, true, false, false] (k0 q), fun n0 => ⟨fun q => g_mask [true, false, true, false, true] (k1 q), fun n1 => ⟨fun q => g_mask [true, false, true, false, false] (k2 q), fun n2 => ⟨fun q => g_mask [true, false, true, false, true] (k3 q), fun n3 => ⟨fun q => g_mask [true, false, true, false, true] (k4 q), fun n4 => ⟨fun q => g_mask [true, false, true, false, true] (k5 q), fun n5 => ⟨fun q => g_mask [true, false, true, false, true] (k6 q), fun n6 => ⟨fun q => g_mask [true, false, true, false, true] (k7 q), fun n7 => ⟨fun q => g_mask [true, false, true, false, true] (k8 q), fun n8 => ⟨fun q => g_mask [true, false, true, false, true] (k9 q), fun n9 => ⟨fun q => g_mask [true, false, true, false, true] (k10 q), fun n10 => (g_mask [false, false, false, false, false] (kd n0 n1 n2 n3 n4 n5 n6 n7 n8 n9 n10))⟩⟩⟩⟩⟩⟩⟩⟩⟩⟩⟩

theorem k_167_41 {X : GX} {d : Nat} {h : Hp} {v1 : Int32} {v2 : Int32} {v3 : Int32} (k0 : v1 = 10 → G X d 167 144 [some (.ref 61), none, some (.int v2), none, none] [] h) (k1 : v1 = 11 → G X d 167 154 [some (.ref 61), none, some (.int v2), none, some (.int (v3 + 1))] [] h) (k2 : v1 = 12 → G X d 167 168 [some (.ref 61), none, some (.int v2), none, none] [] h) (k3 : v1 = 13 → G X d 167 185 [some (.ref 61), none, some (.int v2), none, some (.int (v3 + 1))] [] h) (k4 : v1 = 20 → G X d 167 203 [some (.ref 61), none, some (.int v2), none, some (.int (v3 + 1))] [] h) (k5 : v1 = 30 → G X d 167 216 [some (.ref 61), none, some (.int v2), none, some (.int (v3 + 1))] [] h) (k6 : v1 = 40 → G X d 167 228 [some (.ref 61), none, some (.int v2), none, some (.int (v3 + 1))] [] h) (k7 : v1 = 50 → G X d 167 241 [some (.ref 61), none, some (.int v2), none, some (.int (v3 + 1))] [] h) (k8 : v1 = 51 → G X d 167 254 [some (.ref 61), none, some (.int v2), none, some (.int (v3 + 1))] [] h) (k9 : v1 = 60 → G X d 167 276 [some (.ref 61), none, some (.int v2), none, some (.int (v3 + 1))] [] h) (k10 : v1 = 61 → G X d 167 288 [some (.ref 61), none, some (.int v2), none, some (.int (v3 + 1))] [] h) (kd : ¬ v1 = 10 → ¬ v1 = 11 → ¬ v1 = 12 → ¬ v1 = 13 → ¬ v1 = 20 → ¬ v1 = 30 → ¬ v1 = 40 → ¬ v1 = 50 → ¬ v1 = 51 → ¬ v1 = 60 → ¬ v1 = 61 → G X d 167 310 [none, none, none, none, none] [] h) : G X d 167 41 [some (.ref 61), some (.int v1), some (.int v2), some (.int v3), none] [] h := by
  refine g_iload_n d_167_41 rfl rfl ?_
  refine g_iconst (v := 1) d_167_42 (by decide) ?_
  refine g_iadd d_167_43 ?_
  refine g_istore d_167_44 (Nat.le_of_ble_eq_true rfl) rfl ?_
  refine g_iload_n d_167_46 rfl rfl ?_
  exact g_lookup (tls := [(10, 144), (11, 154), (12, 168), (13, 185), (20, 203), (30, 216), (40, 228), (50, 241), (51, 254), (60, 276), (61, 288)]) (df := 310) d_167_47 (by decide +kernel) ⟨fun q => g_mask [true, false, true, false, false] (k0 q), fun n0 => ⟨fun q => g_mask [true, false, true, false, true] (k1 q), fun n1 => ⟨fun q => g_mask [true, false, true, false, false] (k2 q), fun n2 => ⟨fun q => g_mask [true, false, true, false, true] (k3 q), fun n3 => ⟨fun q => g_mask [true, false, true, false, true] (k4 q), fun n4 => ⟨fun q => g_mask [true, false, true, false, true] (k5 q), fun n5 => ⟨fun q => g_mask [true, false, true, false, true] (k6 q), fun n6 => ⟨fun q => g_mask [true, false, true, false, true] (k7 q), fun n7 => ⟨fun q => g_mask [true, false, true, false, true] (k8 q), fun n8 => ⟨fun q => g_mask [true, false, true, false, true] (k9 q), fun n9 => ⟨fun q => g_mask [true, false, true, false, true] (k10 q), fun n10 => (g_mask [false, false, false, false, false] (kd n0 n1 n2 n3 n4 n5 n6 n7 n8 n9 n10))⟩⟩⟩⟩⟩⟩⟩⟩⟩⟩⟩

theorem k_167_144 {X : GX} {d : Nat} {h : Hp} {v2 : Int32} (hq : RtX X (some (.int ((v2 * 6) + (h 61 4)))) h) : G X d 167 144 [some (.ref 61), none, some (.int v2), none, none] [] h := by
  refine g_iload_n d_167_144 rfl rfl ?_
  refine g_bipush (v := 6) d_167_145 (by decide) ?_
  refine g_imul d_167_147 ?_
  refine g_aload_n d_167_148 rfl rfl ?_
  refine g_getf (ci := 0) (k := 4) d_167_149 wd_127 (Nat.le_of_ble_eq_true rfl) rfl rfl ?_
  refine g_iadd d_167_152 ?_
  exact g_reti d_167_153 rfl hq

theorem k_167_154 {X : GX} {d : Nat} {h : Hp} {v2 : Int32} {v4 : Int32} {d' : Nat} {Q' : Int32 → Hp → Prop} (hdd : d' < d) (hC : CI d' 166 [.ref 61, .int 0, .int v2, .int v4] h Q') (kk : ∀ x h', Q' x h' → G X d 167 162 [some (.ref 61), none, none, none, none] [.int x] h') : G X d 167 154 [some (.ref 61), none, some (.int v2), none, some (.int v4)] [] h := by
  refine g_aload_n d_167_154 rfl rfl ?_
  refine g_iconst (v := 0) d_167_155 (by decide) ?_
  refine g_iload_n d_167_156 rfl rfl ?_
  refine g_iload d_167_157 rfl ?_
  exact g_callVI (mj := 166) 0 [.int 0, .int v2, .int v4] [] d_167_159 wd_339 mo_166 mc_166 mv_166 rfl rfl rfl (Nat.le_of_ble_eq_true rfl) rfl hdd hC (fun x h' q => g_mask [true, false, false, false, false] (kk x h' q))

theorem k_167_162 {X : GX} {d : Nat} {h : Hp} {s0 : Int32} (hq : RtX X (some (.int (s0 - (h 61 5)))) h) : G X d 167 162 [some (.ref 61), none, none, none, none] [.int s0] h := by
  refine g_aload_n d_167_162 rfl rfl ?_
  refine g_getf (ci := 0) (k := 5) d_167_163 wd_128 (Nat.le_of_ble_eq_true rfl) rfl rfl ?_
  refine g_isub d_167_166 ?_
  exact g_reti d_167_167 rfl hq

theorem k_167_168 {X : GX} {d : Nat} {h : Hp} {v2 : Int32} {d' : Nat} {Q' : Int32 → Hp → Prop} (hdd : d' < d) (hC : CI d' 168 [.ref 61, .int v2, .int (((h 61 5) + (h 61 4)) - 3)] h Q') (kk : ∀ x h', Q' x h' → G X d 167 184 [none, none, none, none, none] [.int x] h') : G X d 167 168 [some (.ref 61), none, some (.int v2), none, none] [] h := by
  refine g_aload_n d_167_168 rfl rfl ?_
  refine g_iload_n d_167_169 rfl rfl ?_
  refine g_aload_n d_167_170 rfl rfl ?_
  refine g_getf (ci := 0) (k := 5) d_167_171 wd_128 (Nat.le_of_ble_eq_true rfl) rfl rfl ?_
  refine g_aload_n d_167_174 rfl rfl ?_
  refine g_getf (ci := 0) (k := 4) d_167_175 wd_127 (Nat.le_of_ble_eq_true rfl) rfl rfl ?_
  refine g_iadd d_167_178 ?_
  refine g_iconst (v := 3) d_167_179 (by decide) ?_
  refine g_isub d_167_180 ?_
  exact g_callVI (mj := 168) 0 [.int v2, .int (((h 61 5) + (h 61 4)) - 3)] [] d_167_181 wd_342 mo_168 mc_168 mv_168 rfl rfl rfl (Nat.le_of_ble_eq_true rfl) rfl hdd hC (fun x h' q => g_mask [false, false, false, false, false] (kk x h' q))

theorem k_167_184 {X : GX} {d : Nat} {h : Hp} {s0 : Int32} (hq : RtX X (some (.int s0)) h) : G X d 167 184 [none, none, none, none, none] [.int s0] h := by
  exact g_reti d_167_184 rfl hq

theorem k_167_185 {X : GX} {d : Nat} {h : Hp} {v2 : Int32} {v4 : Int32} {d' : Nat} {Q' : Int32 → Hp → Prop} (hdd : d' < d) (hC : CI d' 166 [.ref 61, .int 1, .int v2, .int v4] h Q') (kk : ∀ x h', Q' x h' → G X d 167 193 [some (.ref 61), none, some (.int v2), none, some (.int v4)] [.int x] h') : G X d 167 185 [some (.ref 61), none, some (.int v2), none, some (.int v4)] [] h := by
  refine g_aload_n d_167_185 rfl rfl ?_
  refine g_iconst (v := 1) d_167_186 (by decide) ?_
  refine g_iload_n d_167_187 rfl rfl ?_
  refine g_iload d_167_188 rfl ?_
  exact g_callVI (mj := 166) 0 [.int 1, .int v2, .int v4] [] d_167_190 wd_339 mo_166 mc_166 mv_166 rfl rfl rfl (Nat.le_of_ble_eq_true rfl) rfl hdd hC kk

theorem k_167_193 {X : GX} {d : Nat} {h : Hp} {v2 : Int32} {v4 : Int32} {s0 : Int32} {d' : Nat} {Q' : Int32 → Hp → Prop} (hdd : d' < d) (hC : CI d' 166 [.ref 61, .int 2, .int v2, .int v4] h Q') (kk : ∀ x h', Q' x h' → G X d 167 201 [none, none, none, none, none] [.int x, .int s0] h') : G X d 167 193 [some (.ref 61), none, some (.int v2), none, some (.int v4)] [.int s0] h := by
  refine g_aload_n d_167_193 rfl rfl ?_
  refine g_iconst (v := 2) d_167_194 (by decide) ?_
  refine g_iload_n d_167_195 rfl rfl ?_
  refine g_iload d_167_196 rfl ?_
  exact g_callVI (mj := 166) 0 [.int 2, .int v2, .int v4] [.int s0] d_167_198 wd_339 mo_166 mc_166 mv_166 rfl rfl rfl (Nat.le_of_ble_eq_true rfl) rfl hdd hC (fun x h' q => g_mask [false, false, false, false, false] (kk x h' q))

theorem k_167_201 {X : GX} {d : Nat} {h : Hp} {s0 : Int32} {s1 : Int32} (hq : RtX X (some (.int (s1 + s0))) h) : G X d 167 201 [none, none, none, none, none] [.int s0, .int s1] h := by
  refine g_iadd d_167_201 ?_
  exact g_reti d_167_202 rfl hq

theorem k_167_203 {X : GX} {d : Nat} {h : Hp} {v2 : Int32} {v4 : Int32} {d' : Nat} {Q' : Int32 → Hp → Prop} (hdd : d' < d) (hC : CI d' 167 [.ref 61, .int 10, .int v2, .int v4] h Q') (kk : ∀ x h', Q' x h' → G X d 167 212 [none, none, none, none, none] [.int x] h') : G X d 167 203 [some (.ref 61), none, some (.int v2), none, some (.int v4)] [] h := by
  refine g_aload_n d_167_203 rfl rfl ?_
  refine g_bipush (v := 10) d_167_204 (by decide) ?_
  refine g_iload_n d_167_206 rfl rfl ?_
  refine g_iload d_167_207 rfl ?_
  exact g_callVI (mj := 167) 0 [.int 10, .int v2, .int v4] [] d_167_209 wd_341 mo_167 mc_167 mv_167 rfl rfl rfl (Nat.le_of_ble_eq_true rfl) rfl hdd hC (fun x h' q => g_mask [false, false, false, false, false] (kk x h' q))

theorem k_167_212 {X : GX} {d : Nat} {h : Hp} {s0 : Int32} (hq : RtX X (some (.int (s0 ^^^ 10))) h) : G X d 167 212 [none, none, none, none, none] [.int s0] h := by
  refine g_bipush (v := 10) d_167_212 (by decide) ?_
  refine g_ixor d_167_214 ?_
  exact g_reti d_167_215 rfl hq

theorem k_167_216 {X : GX} {d : Nat} {h : Hp} {v2 : Int32} {v4 : Int32} {d' : Nat} {Q' : Int32 → Hp → Prop} (hdd : d' < d) (hC : CI d' 167 [.ref 61, .int 11, .int v2, .int v4] h Q') (kk : ∀ x h', Q' x h' → G X d 167 225 [none, none, none, none, none] [.int x] h') : G X d 167 216 [some (.ref 61), none, some (.int v2), none, some (.int v4)] [] h := by
  refine g_aload_n d_167_216 rfl rfl ?_
  refine g_bipush (v := 11) d_167_217 (by decide) ?_
  refine g_iload_n d_167_219 rfl rfl ?_
  refine g_iload d_167_220 rfl ?_
  exact g_callVI (mj := 167) 0 [.int 11, .int v2, .int v4] [] d_167_222 wd_341 mo_167 mc_167 mv_167 rfl rfl rfl (Nat.le_of_ble_eq_true rfl) rfl hdd hC (fun x h' q => g_mask [false, false, false, false, false] (kk x h' q))

theorem k_167_225 {X : GX} {d : Nat} {h : Hp} {s0 : Int32} (hq : RtX X (some (.int (s0 * 2))) h) : G X d 167 225 [none, none, none, none, none] [.int s0] h := by
  refine g_iconst (v := 2) d_167_225 (by decide) ?_
  refine g_imul d_167_226 ?_
  exact g_reti d_167_227 rfl hq

theorem k_167_228 {X : GX} {d : Nat} {h : Hp} {v2 : Int32} {v4 : Int32} {d' : Nat} {Q' : Int32 → Hp → Prop} (hdd : d' < d) (hC : CI d' 167 [.ref 61, .int 12, .int v2, .int v4] h Q') (kk : ∀ x h', Q' x h' → G X d 167 237 [none, none, none, none, none] [.int x] h') : G X d 167 228 [some (.ref 61), none, some (.int v2), none, some (.int v4)] [] h := by
  refine g_aload_n d_167_228 rfl rfl ?_
  refine g_bipush (v := 12) d_167_229 (by decide) ?_
  refine g_iload_n d_167_231 rfl rfl ?_
  refine g_iload d_167_232 rfl ?_
  exact g_callVI (mj := 167) 0 [.int 12, .int v2, .int v4] [] d_167_234 wd_341 mo_167 mc_167 mv_167 rfl rfl rfl (Nat.le_of_ble_eq_true rfl) rfl hdd hC (fun x h' q => g_mask [false, false, false, false, false] (kk x h' q))

theorem k_167_237 {X : GX} {d : Nat} {h : Hp} {s0 : Int32} (hq : RtX X (some (.int (s0 + 6))) h) : G X d 167 237 [none, none, none, none, none] [.int s0] h := by
  refine g_bipush (v := 6) d_167_237 (by decide) ?_
  refine g_iadd d_167_239 ?_
  exact g_reti d_167_240 rfl hq

theorem k_167_241 {X : GX} {d : Nat} {h : Hp} {v2 : Int32} {v4 : Int32} {d' : Nat} {Q' : Int32 → Hp → Prop} (hdd : d' < d) (hC : CI d' 167 [.ref 61, .int 10, .int (v2 + 7), .int v4] h Q') (kk : ∀ x h', Q' x h' → G X d 167 253 [none, none, none, none, none] [.int x] h') : G X d 167 241 [some (.ref 61), none, some (.int v2), none, some (.int v4)] [] h := by
  refine g_aload_n d_167_241 rfl rfl ?_
  refine g_bipush (v := 10) d_167_242 (by decide) ?_
  refine g_iload_n d_167_244 rfl rfl ?_
  refine g_bipush (v := 7) d_167_245 (by decide) ?_
  refine g_iadd d_167_247 ?_
  refine g_iload d_167_248 rfl ?_
  exact g_callVI (mj := 167) 0 [.int 10, .int (v2 + 7), .int v4] [] d_167_250 wd_341 mo_167 mc_167 mv_167 rfl rfl rfl (Nat.le_of_ble_eq_true rfl) rfl hdd hC (fun x h' q => g_mask [false, false, false, false, false] (kk x h' q))

theorem k_167_253 {X : GX} {d : Nat} {h : Hp} {s0 : Int32} (hq : RtX X (some (.int s0)) h) : G X d 167 253 [none, none, none, none, none] [.int s0] h := by
  exact g_reti d_167_253 rfl hq

theorem k_167_254 {X : GX} {d : Nat} {h : Hp} {v2 : Int32} {v4 : Int32} {d' : Nat} {Q' : Int32 → Hp → Prop} (hdd : d' < d) (hC : CI d' 167 [.ref 61, .int 13, .int v2, .int v4] h Q') (kk : ∀ x h', Q' x h' → G X d 167 263 [some (.ref 61), none, none, none, some (.int v4)] [.int x] h') : G X d 167 254 [some (.ref 61), none, some (.int v2), none, some (.int v4)] [] h := by
  refine g_aload_n d_167_254 rfl rfl ?_
  refine g_bipush (v := 13) d_167_255 (by decide) ?_
  refine g_iload_n d_167_257 rfl rfl ?_
  refine g_iload d_167_258 rfl ?_
  exact g_callVI (mj := 167) 0 [.int 13, .int v2, .int v4] [] d_167_260 wd_341 mo_167 mc_167 mv_167 rfl rfl rfl (Nat.le_of_ble_eq_true rfl) rfl hdd hC (fun x h' q => g_mask [true, false, false, false, true] (kk x h' q))

theorem k_167_263 {X : GX} {d : Nat} {h : Hp} {v4 : Int32} {s0 : Int32} {d' : Nat} {Q' : Int32 → Hp → Prop} (hdd : d' < d) (hC : CI d' 166 [.ref 61, .int 1, .int (h 61 5), .int v4] h Q') (kk : ∀ x h', Q' x h' → G X d 167 274 [none, none, none, none, none] [.int x, .int s0] h') : G X d 167 263 [some (.ref 61), none, none, none, some (.int v4)] [.int s0] h := by
  refine g_aload_n d_167_263 rfl rfl ?_
  refine g_iconst (v := 1) d_167_264 (by decide) ?_
  refine g_aload_n d_167_265 rfl rfl ?_
  refine g_getf (ci := 0) (k := 5) d_167_266 wd_128 (Nat.le_of_ble_eq_true rfl) rfl rfl ?_
  refine g_iload d_167_269 rfl ?_
  exact g_callVI (mj := 166) 0 [.int 1, .int (h 61 5), .int v4] [.int s0] d_167_271 wd_339 mo_166 mc_166 mv_166 rfl rfl rfl (Nat.le_of_ble_eq_true rfl) rfl hdd hC (fun x h' q => g_mask [false, false, false, false, false] (kk x h' q))

theorem k_167_274 {X : GX} {d : Nat} {h : Hp} {s0 : Int32} {s1 : Int32} (hq : RtX X (some (.int (s1 - s0))) h) : G X d 167 274 [none, none, none, none, none] [.int s0, .int s1] h := by
  refine g_isub d_167_274 ?_
  exact g_reti d_167_275 rfl hq

theorem k_167_276 {X : GX} {d : Nat} {h : Hp} {v2 : Int32} {v4 : Int32} {d' : Nat} {Q' : Int32 → Hp → Prop} (hdd : d' < d) (hC : CI d' 167 [.ref 61, .int 11, .int v2, .int v4] h Q') (kk : ∀ x h', Q' x h' → G X d 167 286 [none, none, none, none, none] [.int x, .int 0] h') : G X d 167 276 [some (.ref 61), none, some (.int v2), none, some (.int v4)] [] h := by
  refine g_iconst (v := 0) d_167_276 (by decide) ?_
  refine g_aload_n d_167_277 rfl rfl ?_
  refine g_bipush (v := 11) d_167_278 (by decide) ?_
  refine g_iload_n d_167_280 rfl rfl ?_
  refine g_iload d_167_281 rfl ?_
  exact g_callVI (mj := 167) 0 [.int 11, .int v2, .int v4] [.int 0] d_167_283 wd_341 mo_167 mc_167 mv_167 rfl rfl rfl (Nat.le_of_ble_eq_true rfl) rfl hdd hC (fun x h' q => g_mask [false, false, false, false, false] (kk x h' q))

theorem k_167_286 {X : GX} {d : Nat} {h : Hp} {s0 : Int32} {s1 : Int32} (hq : RtX X (some (.int (s1 - s0))) h) : G X d 167 286 [none, none, none, none, none] [.int s0, .int s1] h := by
  refine g_isub d_167_286 ?_
  exact g_reti d_167_287 rfl hq

theorem k_167_288 {X : GX} {d : Nat} {h : Hp} {v2 : Int32} {v4 : Int32} {d' : Nat} {Q' : Int32 → Hp → Prop} (hdd : d' < d) (hC : CI d' 167 [.ref 61, .int 40, .int v2, .int v4] h Q') (kk : ∀ x h', Q' x h' → G X d 167 297 [some (.ref 61), none, none, none, some (.int v4)] [.int x] h') : G X d 167 288 [some (.ref 61), none, some (.int v2), none, some (.int v4)] [] h := by
  refine g_aload_n d_167_288 rfl rfl ?_
  refine g_bipush (v := 40) d_167_289 (by decide) ?_
  refine g_iload_n d_167_291 rfl rfl ?_
  refine g_iload d_167_292 rfl ?_
  exact g_callVI (mj := 167) 0 [.int 40, .int v2, .int v4] [] d_167_294 wd_341 mo_167 mc_167 mv_167 rfl rfl rfl (Nat.le_of_ble_eq_true rfl) rfl hdd hC (fun x h' q => g_mask [true, false, false, false, true] (kk x h' q))

theorem k_167_297 {X : GX} {d : Nat} {h : Hp} {v4 : Int32} {s0 : Int32} {d' : Nat} {Q' : Int32 → Hp → Prop} (hdd : d' < d) (hC : CI d' 166 [.ref 61, .int 0, .int (h 61 4), .int v4] h Q') (kk : ∀ x h', Q' x h' → G X d 167 308 [none, none, none, none, none] [.int x, .int s0] h') : G X d 167 297 [some (.ref 61), none, none, none, some (.int v4)] [.int s0] h := by
  refine g_aload_n d_167_297 rfl rfl ?_
  refine g_iconst (v := 0) d_167_298 (by decide) ?_
  refine g_aload_n d_167_299 rfl rfl ?_
  refine g_getf (ci := 0) (k := 4) d_167_300 wd_127 (Nat.le_of_ble_eq_true rfl) rfl rfl ?_
  refine g_iload d_167_303 rfl ?_
  exact g_callVI (mj := 166) 0 [.int 0, .int (h 61 4), .int v4] [.int s0] d_167_305 wd_339 mo_166 mc_166 mv_166 rfl rfl rfl (Nat.le_of_ble_eq_true rfl) rfl hdd hC (fun x h' q => g_mask [false, false, false, false, false] (kk x h' q))

theorem k_167_308 {X : GX} {d : Nat} {h : Hp} {s0 : Int32} {s1 : Int32} (hq : RtX X (some (.int (s1 ^^^ s0))) h) : G X d 167 308 [none, none, none, none, none] [.int s0, .int s1] h := by
  refine g_ixor d_167_308 ?_
  exact g_reti d_167_309 rfl hq

theorem k_167_310 {X : GX} {d : Nat} {h : Hp} (hq : RtX X (some (.int 0)) h) : G X d 167 310 [none, none, none, none, none] [] h := by
  refine g_iconst (v := 0) d_167_310 (by decide) ?_
  exact g_reti d_167_311 rfl hq

/-! 168 PlayedTruth$Acting.part(II)I -/
theorem k_168_0 {X : GX} {d : Nat} {h : Hp} {v1 : Int32} {v2 : Int32} (kt : ¬ v2 = 0 → G X d 168 11 [none, some (.int v1), some (.int v2)] [] h) (kf : v2 = 0 → G X d 168 4 [some (.ref 61), none, none] [] h) : G X d 168 0 [some (.ref 61), some (.int v1), some (.int v2)] [] h := by
  refine g_iload_n d_168_0 rfl rfl ?_
  exact g_if_ne (tgt := 11) d_168_1 (by decide) (fun q => g_mask [false, true, true] (kt q)) (fun q => g_mask [true, false, false] (kf q))

theorem k_168_4 {X : GX} {d : Nat} {h : Hp} (hq : RtX X (some (.int 0)) (wr h 61 2 1)) : G X d 168 4 [some (.ref 61), none, none] [] h := by
  refine g_aload_n d_168_4 rfl rfl ?_
  refine g_iconst (v := 1) d_168_5 (by decide) ?_
  refine g_putf (ci := 0) (k := 2) d_168_6 wd_125 (Nat.le_of_ble_eq_true rfl) (Nat.le_of_ble_eq_true rfl) rfl rfl (Or.inr ⟨rfl, rfl, z01_1⟩) rfl ?_
  refine g_iconst (v := 0) d_168_9 (by decide) ?_
  exact g_reti d_168_10 rfl hq

theorem k_168_11 {X : GX} {d : Nat} {h : Hp} {v1 : Int32} {v2 : Int32} (n0 : ¬ v2 = 0) (hq : RtX X (some (.int (v1 / v2))) h) : G X d 168 11 [none, some (.int v1), some (.int v2)] [] h := by
  refine g_iload_n d_168_11 rfl rfl ?_
  refine g_iload_n d_168_12 rfl rfl ?_
  refine g_idiv d_168_13 n0 ?_
  exact g_reti d_168_14 rfl hq

