/-! 16 PlayedTruth$Stage.learns(LPlayedTruth$Moment;I)I -/
theorem k_16_0 {X : GX} {d : Nat} {h : Hp} {v1 : Nat} {v2 : Int32} {d' : Nat} {Q' : Int32 → Hp → Prop} (b0 : IA 2 v2) (o1 : sh v1 = (1, 3)) (hdd : d' < d) (hC : CI d' 17 [.ref 1, .int (h v1 3)] h Q') (kk : ∀ x h', Q' x h' → G X d 16 14 [some (.ref 1), some (.ref v1), some (.int v2), none] [.int x, .int (h 2 (Int32.toNatClampNeg v2))] h') : G X d 16 0 [some (.ref 1), some (.ref v1), some (.int v2), none] [] h := by
  refine g_aload_n d_16_0 rfl rfl ?_
  refine g_getf (ci := 6) (k := 0) d_16_1 wd_14 (Nat.le_of_ble_eq_true rfl) rfl rfl ?_
  refine g_iload_n d_16_4 rfl rfl ?_
  refine g_iald d_16_5 b0 ?_
  refine g_aload_n d_16_6 rfl rfl ?_
  refine g_aload_n d_16_7 rfl rfl ?_
  refine g_getf (ci := 3) (k := 3) d_16_8 wd_45 (Nat.le_of_ble_eq_true rfl) rfl o1 ?_
  exact g_callVI (mj := 17) 6 [.int (h v1 3)] [.int (h 2 (Int32.toNatClampNeg v2))] d_16_11 wd_149 mo_17 mc_17 mv_17 rfl rfl rfl (Nat.le_of_ble_eq_true rfl) rfl hdd hC kk

theorem k_16_14 {X : GX} {d : Nat} {h : Hp} {v1 : Nat} {v2 : Int32} {s0 : Int32} {s1 : Int32} {d' : Nat} {Q' : Int32 → Hp → Prop} (o0 : sh v1 = (1, 3)) (b1 : IA (v1 + 1) v2) (hdd : d' < d) (hC : CI d' 18 [.int s1, .int s0, .int (h (v1 + 1) (Int32.toNatClampNeg v2)), .int (h v1 3)] h Q') (kk : ∀ x h', Q' x h' → G X d 16 27 [some (.ref 1), some (.ref v1), some (.int v2), none] [.int x] h') : G X d 16 14 [some (.ref 1), some (.ref v1), some (.int v2), none] [.int s0, .int s1] h := by
  refine g_aload_n d_16_14 rfl rfl ?_
  refine g_getf (ci := 3) (k := 0) d_16_15 wd_36 (Nat.le_of_ble_eq_true rfl) rfl o0 ?_
  refine g_iload_n d_16_18 rfl rfl ?_
  refine g_iald d_16_19 b1 ?_
  refine g_aload_n d_16_20 rfl rfl ?_
  refine g_getf (ci := 3) (k := 3) d_16_21 wd_45 (Nat.le_of_ble_eq_true rfl) rfl o0 ?_
  exact g_callSI (mj := 18) [.int s1, .int s0, .int (h (v1 + 1) (Int32.toNatClampNeg v2)), .int (h v1 3)] [] d_16_24 wd_150 mo_18 mc_18 mv_18 rfl rfl (Nat.le_of_ble_eq_true rfl)  hdd hC kk

theorem k_16_27 {X : GX} {d : Nat} {h : Hp} {v1 : Nat} {v2 : Int32} {s0 : Int32} {d' : Nat} {Q' : Int32 → Hp → Prop} (hdd : d' < d) (hC : CI d' 20 [.ref 1, .ref v1, .int v2] h Q') (kk : ∀ x h', Q' x h' → G X d 16 37 [some (.ref 1), none, some (.int v2), none] [.int x, .int 5, .int s0, .int 0] h') : G X d 16 27 [some (.ref 1), some (.ref v1), some (.int v2), none] [.int s0] h := by
  refine g_istore_n d_16_27 rfl (Nat.le_of_ble_eq_true rfl) rfl ?_
  refine g_iconst (v := 0) d_16_28 (by decide) ?_
  refine g_iload_n d_16_29 rfl rfl ?_
  refine g_iconst (v := 5) d_16_30 (by decide) ?_
  refine g_aload_n d_16_31 rfl rfl ?_
  refine g_aload_n d_16_32 rfl rfl ?_
  refine g_iload_n d_16_33 rfl rfl ?_
  exact g_callVI (mj := 20) 6 [.ref v1, .int v2] [.int 5, .int s0, .int 0] d_16_34 wd_152 mo_20 mc_20 mv_20 rfl rfl rfl (Nat.le_of_ble_eq_true rfl) rfl hdd hC (fun x h' q => g_mask [true, false, true, false] (kk x h' q))

theorem k_16_37 {X : GX} {d : Nat} {h : Hp} {v2 : Int32} {s0 : Int32} {s1 : Int32} {s2 : Int32} {s3 : Int32} (b0 : IA 3 v2) (b1 : IA 6 (h 3 (Int32.toNatClampNeg v2))) (dd2 : 0 < d) (hq : RtX X (some (.int (if s3 < ((s2 + (s1 * s0)) - (h 6 (Int32.toNatClampNeg (h 3 (Int32.toNatClampNeg v2))))) then ((s2 + (s1 * s0)) - (h 6 (Int32.toNatClampNeg (h 3 (Int32.toNatClampNeg v2))))) else s3))) h) : G X d 16 37 [some (.ref 1), none, some (.int v2), none] [.int s0, .int s1, .int s2, .int s3] h := by
  refine g_imul d_16_37 ?_
  refine g_iadd d_16_38 ?_
  refine g_aload_n d_16_39 rfl rfl ?_
  refine g_getf (ci := 6) (k := 4) d_16_40 wd_22 (Nat.le_of_ble_eq_true rfl) rfl rfl ?_
  refine g_aload_n d_16_43 rfl rfl ?_
  refine g_getf (ci := 6) (k := 1) d_16_44 wd_16 (Nat.le_of_ble_eq_true rfl) rfl rfl ?_
  refine g_iload_n d_16_47 rfl rfl ?_
  refine g_iald d_16_48 b0 ?_
  refine g_iald d_16_49 b1 ?_
  refine g_isub d_16_50 ?_
  refine g_mmax d_16_51 wd_154 (Nat.le_of_ble_eq_true rfl) dd2 ?_
  exact g_reti d_16_54 rfl hq

/-! 17 PlayedTruth$Stage.railOf(I)I -/
theorem k_17_0 {X : GX} {d : Nat} {h : Hp} {v1 : Int32} (kt : v1 < 0 → G X d 17 21 [none, none] [] h) (kf : ¬ v1 < 0 → G X d 17 4 [some (.ref 1), some (.int v1)] [] h) : G X d 17 0 [some (.ref 1), some (.int v1)] [] h := by
  refine g_iload_n d_17_0 rfl rfl ?_
  exact g_if_lt (tgt := 21) d_17_1 (by decide) (fun q => g_mask [false, false] (kt q)) kf

theorem k_17_4 {X : GX} {d : Nat} {h : Hp} {v1 : Int32} (kt : 16 ≤ v1 → G X d 17 21 [none, none] [] h) (kf : ¬ 16 ≤ v1 → G X d 17 10 [some (.ref 1), some (.int v1)] [] h) : G X d 17 4 [some (.ref 1), some (.int v1)] [] h := by
  refine g_iload_n d_17_4 rfl rfl ?_
  refine g_bipush (v := 16) d_17_5 (by decide) ?_
  exact g_icmp_ge (tgt := 21) d_17_7 (by decide) (fun q => g_mask [false, false] (kt q)) kf

theorem k_17_10 {X : GX} {d : Nat} {h : Hp} {v1 : Int32} (b0 : IA 4 v1) (hq : RtX X (some (.int ((h 4 (Int32.toNatClampNeg v1)) / 4))) h) : G X d 17 10 [some (.ref 1), some (.int v1)] [] h := by
  refine g_aload_n d_17_10 rfl rfl ?_
  refine g_getf (ci := 6) (k := 2) d_17_11 wd_18 (Nat.le_of_ble_eq_true rfl) rfl rfl ?_
  refine g_iload_n d_17_14 rfl rfl ?_
  refine g_iald d_17_15 b0 ?_
  refine g_iconst (v := 4) d_17_16 (by decide) ?_
  refine g_idiv d_17_17 (by decide) ?_
  refine g_goto (tgt := 22) d_17_18 (by decide) ?_
  exact g_reti d_17_22 rfl hq

theorem k_17_21 {X : GX} {d : Nat} {h : Hp} (hq : RtX X (some (.int 0)) h) : G X d 17 21 [none, none] [] h := by
  refine g_iconst (v := 0) d_17_21 (by decide) ?_
  exact g_reti d_17_22 rfl hq

/-! 20 PlayedTruth$Stage.leans(LPlayedTruth$Moment;I)I -/
theorem k_20_0 {X : GX} {d : Nat} {h : Hp} {v1 : Nat} {v2 : Int32} (kk : G X d 20 5 [some (.ref 1), some (.ref v1), some (.int v2), some (.int 0), some (.int 0)] [] h) : G X d 20 0 [some (.ref 1), some (.ref v1), some (.int v2), none, none] [] h := by
  refine g_iconst (v := 0) d_20_0 (by decide) ?_
  refine g_istore_n d_20_1 rfl (Nat.le_of_ble_eq_true rfl) rfl ?_
  refine g_iconst (v := 0) d_20_2 (by decide) ?_
  refine g_istore d_20_3 (Nat.le_of_ble_eq_true rfl) rfl ?_
  exact kk

theorem k_20_5 {X : GX} {d : Nat} {h : Hp} {v1 : Nat} {v2 : Int32} {v3 : Int32} {v4 : Int32} (kt : (h 1 7) ≤ v4 → G X d 20 50 [none, none, none, some (.int v3), none] [] h) (kf : ¬ (h 1 7) ≤ v4 → G X d 20 14 [some (.ref 1), some (.ref v1), some (.int v2), some (.int v3), some (.int v4)] [] h) : G X d 20 5 [some (.ref 1), some (.ref v1), some (.int v2), some (.int v3), some (.int v4)] [] h := by
  refine g_iload d_20_5 rfl ?_
  refine g_aload_n d_20_7 rfl rfl ?_
  refine g_getf (ci := 6) (k := 7) d_20_8 wd_27 (Nat.le_of_ble_eq_true rfl) rfl rfl ?_
  exact g_icmp_ge (tgt := 50) d_20_11 (by decide) (fun q => g_mask [false, false, false, true, false] (kt q)) kf

theorem k_20_14 {X : GX} {d : Nat} {h : Hp} {v1 : Nat} {v2 : Int32} {v3 : Int32} {v4 : Int32} {d' : Nat} {Q' : Int32 → Hp → Prop} (o0 : sh v1 = (1, 3)) (hdd : d' < d) (hC : CI d' 15 [.ref v1, .int v4] h Q') (kk : ∀ x h', Q' x h' → G X d 20 20 [some (.ref 1), some (.ref v1), some (.int v2), some (.int v3), some (.int v4)] [.int x] h') : G X d 20 14 [some (.ref 1), some (.ref v1), some (.int v2), some (.int v3), some (.int v4)] [] h := by
  refine g_aload_n d_20_14 rfl rfl ?_
  refine g_iload d_20_15 rfl ?_
  exact g_callVI (mj := 15) 3 [.int v4] [] d_20_17 wd_153 mo_15 mc_15 mv_15 rfl rfl rfl (Nat.le_of_ble_eq_true rfl) o0 hdd hC kk

theorem k_20_20 {X : GX} {d : Nat} {h : Hp} {v1 : Nat} {v2 : Int32} {v3 : Int32} {v4 : Int32} {s0 : Int32} (kt : s0 = 0 → G X d 20 44 [some (.ref 1), some (.ref v1), some (.int v2), some (.int v3), some (.int v4)] [] h) (kf : ¬ s0 = 0 → G X d 20 23 [some (.ref 1), some (.ref v1), some (.int v2), some (.int v3), some (.int v4)] [] h) : G X d 20 20 [some (.ref 1), some (.ref v1), some (.int v2), some (.int v3), some (.int v4)] [.int s0] h := by
  exact g_if_eq (tgt := 44) d_20_20 (by decide) kt kf

theorem k_20_23 {X : GX} {d : Nat} {h : Hp} {v1 : Nat} {v2 : Int32} {v3 : Int32} {v4 : Int32} (b0 : IA 3 v4) (b1 : IA 3 v2) (kt : ¬ (h 3 (Int32.toNatClampNeg v4)) = ((h 3 (Int32.toNatClampNeg v2)) - 1) → G X d 20 44 [some (.ref 1), some (.ref v1), some (.int v2), some (.int v3), some (.int v4)] [] h) (kf : (h 3 (Int32.toNatClampNeg v4)) = ((h 3 (Int32.toNatClampNeg v2)) - 1) → G X d 20 41 [some (.ref 1), some (.ref v1), some (.int v2), some (.int v3), some (.int v4)] [] h) : G X d 20 23 [some (.ref 1), some (.ref v1), some (.int v2), some (.int v3), some (.int v4)] [] h := by
  refine g_aload_n d_20_23 rfl rfl ?_
  refine g_getf (ci := 6) (k := 1) d_20_24 wd_16 (Nat.le_of_ble_eq_true rfl) rfl rfl ?_
  refine g_iload d_20_27 rfl ?_
  refine g_iald d_20_29 b0 ?_
  refine g_aload_n d_20_30 rfl rfl ?_
  refine g_getf (ci := 6) (k := 1) d_20_31 wd_16 (Nat.le_of_ble_eq_true rfl) rfl rfl ?_
  refine g_iload_n d_20_34 rfl rfl ?_
  refine g_iald d_20_35 b1 ?_
  refine g_iconst (v := 1) d_20_36 (by decide) ?_
  refine g_isub d_20_37 ?_
  exact g_icmp_ne (tgt := 44) d_20_38 (by decide) kt kf

theorem k_20_41 {X : GX} {d : Nat} {h : Hp} {v1 : Nat} {v2 : Int32} {v3 : Int32} {v4 : Int32} (kk : G X d 20 5 [some (.ref 1), some (.ref v1), some (.int v2), some (.int (v3 + 1)), some (.int (v4 + 1))] [] h) : G X d 20 41 [some (.ref 1), some (.ref v1), some (.int v2), some (.int v3), some (.int v4)] [] h := by
  refine g_iinc (w := 1) d_20_41 rfl (by decide) (Nat.le_of_ble_eq_true rfl) rfl ?_
  refine g_iinc (w := 1) d_20_44 rfl (by decide) (Nat.le_of_ble_eq_true rfl) rfl ?_
  refine g_goto (tgt := 5) d_20_47 (by decide) ?_
  exact kk

theorem k_20_44 {X : GX} {d : Nat} {h : Hp} {v1 : Nat} {v2 : Int32} {v3 : Int32} {v4 : Int32} (kk : G X d 20 5 [some (.ref 1), some (.ref v1), some (.int v2), some (.int v3), some (.int (v4 + 1))] [] h) : G X d 20 44 [some (.ref 1), some (.ref v1), some (.int v2), some (.int v3), some (.int v4)] [] h := by
  refine g_iinc (w := 1) d_20_44 rfl (by decide) (Nat.le_of_ble_eq_true rfl) rfl ?_
  refine g_goto (tgt := 5) d_20_47 (by decide) ?_
  exact kk

theorem k_20_50 {X : GX} {d : Nat} {h : Hp} {v3 : Int32} (hq : RtX X (some (.int v3)) h) : G X d 20 50 [none, none, none, some (.int v3), none] [] h := by
  refine g_iload_n d_20_50 rfl rfl ?_
  exact g_reti d_20_51 rfl hq

/-! 21 PlayedTruth$Stage.draws(LPlayedTruth$Moment;I)I -/
theorem k_21_0 {X : GX} {d : Nat} {h : Hp} {v1 : Nat} {v2 : Int32} {d' : Nat} {Q' : Int32 → Hp → Prop} (b0 : IA 2 v2) (o1 : sh v1 = (1, 3)) (b2 : IA (v1 + 2) v2) (b3 : IA (v1 + 1) v2) (hdd : d' < d) (hC : CI d' 22 [.int (h 2 (Int32.toNatClampNeg v2)), .int (h (v1 + 2) (Int32.toNatClampNeg v2)), .int (h (v1 + 1) (Int32.toNatClampNeg v2)), .int v2] h Q') (kk : ∀ x h', Q' x h' → G X d 21 22 [some (.ref 1), none, some (.int v2)] [.int x] h') : G X d 21 0 [some (.ref 1), some (.ref v1), some (.int v2)] [] h := by
  refine g_aload_n d_21_0 rfl rfl ?_
  refine g_getf (ci := 6) (k := 0) d_21_1 wd_14 (Nat.le_of_ble_eq_true rfl) rfl rfl ?_
  refine g_iload_n d_21_4 rfl rfl ?_
  refine g_iald d_21_5 b0 ?_
  refine g_aload_n d_21_6 rfl rfl ?_
  refine g_getf (ci := 3) (k := 1) d_21_7 wd_39 (Nat.le_of_ble_eq_true rfl) rfl o1 ?_
  refine g_iload_n d_21_10 rfl rfl ?_
  refine g_iald d_21_11 b2 ?_
  refine g_aload_n d_21_12 rfl rfl ?_
  refine g_getf (ci := 3) (k := 0) d_21_13 wd_36 (Nat.le_of_ble_eq_true rfl) rfl o1 ?_
  refine g_iload_n d_21_16 rfl rfl ?_
  refine g_iald d_21_17 b3 ?_
  refine g_iload_n d_21_18 rfl rfl ?_
  exact g_callSI (mj := 22) [.int (h 2 (Int32.toNatClampNeg v2)), .int (h (v1 + 2) (Int32.toNatClampNeg v2)), .int (h (v1 + 1) (Int32.toNatClampNeg v2)), .int v2] [] d_21_19 wd_156 mo_22 mc_22 mv_22 rfl rfl (Nat.le_of_ble_eq_true rfl)  hdd hC (fun x h' q => g_mask [true, false, true] (kk x h' q))

theorem k_21_22 {X : GX} {d : Nat} {h : Hp} {v2 : Int32} {s0 : Int32} (b0 : IA 3 v2) (b1 : IA 5 (h 3 (Int32.toNatClampNeg v2))) (hq : RtX X (some (.int (s0 + (h 5 (Int32.toNatClampNeg (h 3 (Int32.toNatClampNeg v2))))))) h) : G X d 21 22 [some (.ref 1), none, some (.int v2)] [.int s0] h := by
  refine g_aload_n d_21_22 rfl rfl ?_
  refine g_getf (ci := 6) (k := 3) d_21_23 wd_20 (Nat.le_of_ble_eq_true rfl) rfl rfl ?_
  refine g_aload_n d_21_26 rfl rfl ?_
  refine g_getf (ci := 6) (k := 1) d_21_27 wd_16 (Nat.le_of_ble_eq_true rfl) rfl rfl ?_
  refine g_iload_n d_21_30 rfl rfl ?_
  refine g_iald d_21_31 b0 ?_
  refine g_iald d_21_32 b1 ?_
  refine g_iadd d_21_33 ?_
  exact g_reti d_21_34 rfl hq

/-! 23 PlayedTruth$Stage.mayBeMended(LPlayedTruth$Moment;I)Z -/
theorem k_23_0 {X : GX} {d : Nat} {h : Hp} {v1 : Nat} {v2 : Int32} {d' : Nat} {Q' : Int32 → Hp → Prop} (o0 : sh v1 = (1, 3)) (hdd : d' < d) (hC : CI d' 15 [.ref v1, .int v2] h Q') (kk : ∀ x h', Q' x h' → G X d 23 5 [some (.ref 1), some (.ref v1), some (.int v2)] [.int x] h') : G X d 23 0 [some (.ref 1), some (.ref v1), some (.int v2)] [] h := by
  refine g_aload_n d_23_0 rfl rfl ?_
  refine g_iload_n d_23_1 rfl rfl ?_
  exact g_callVI (mj := 15) 3 [.int v2] [] d_23_2 wd_153 mo_15 mc_15 mv_15 rfl rfl rfl (Nat.le_of_ble_eq_true rfl) o0 hdd hC kk

theorem k_23_5 {X : GX} {d : Nat} {h : Hp} {v1 : Nat} {v2 : Int32} {s0 : Int32} (kt : ¬ s0 = 0 → G X d 23 30 [none, none, none] [] h) (kf : s0 = 0 → G X d 23 8 [some (.ref 1), some (.ref v1), some (.int v2)] [] h) : G X d 23 5 [some (.ref 1), some (.ref v1), some (.int v2)] [.int s0] h := by
  exact g_if_ne (tgt := 30) d_23_5 (by decide) (fun q => g_mask [false, false, false] (kt q)) kf

theorem k_23_8 {X : GX} {d : Nat} {h : Hp} {v1 : Nat} {v2 : Int32} {d' : Nat} {Q' : Int32 → Hp → Prop} (hdd : d' < d) (hC : CI d' 16 [.ref 1, .ref v1, .int v2] h Q') (kk : ∀ x h', Q' x h' → G X d 23 14 [some (.ref 1), some (.ref v1), some (.int v2)] [.int x] h') : G X d 23 8 [some (.ref 1), some (.ref v1), some (.int v2)] [] h := by
  refine g_aload_n d_23_8 rfl rfl ?_
  refine g_aload_n d_23_9 rfl rfl ?_
  refine g_iload_n d_23_10 rfl rfl ?_
  exact g_callVI (mj := 16) 6 [.ref v1, .int v2] [] d_23_11 wd_159 mo_16 mc_16 mv_16 rfl rfl rfl (Nat.le_of_ble_eq_true rfl) rfl hdd hC kk

theorem k_23_14 {X : GX} {d : Nat} {h : Hp} {v1 : Nat} {v2 : Int32} {s0 : Int32} (kt : s0 ≤ 0 → G X d 23 30 [none, none, none] [] h) (kf : ¬ s0 ≤ 0 → G X d 23 17 [some (.ref 1), some (.ref v1), some (.int v2)] [] h) : G X d 23 14 [some (.ref 1), some (.ref v1), some (.int v2)] [.int s0] h := by
  exact g_if_le (tgt := 30) d_23_14 (by decide) (fun q => g_mask [false, false, false] (kt q)) kf

theorem k_23_17 {X : GX} {d : Nat} {h : Hp} {v1 : Nat} {v2 : Int32} {d' : Nat} {Q' : Int32 → Hp → Prop} (hdd : d' < d) (hC : CI d' 24 [.ref 1, .ref v1, .int v2] h Q') (kk : ∀ x h', Q' x h' → G X d 23 23 [none, none, none] [.int x] h') : G X d 23 17 [some (.ref 1), some (.ref v1), some (.int v2)] [] h := by
  refine g_aload_n d_23_17 rfl rfl ?_
  refine g_aload_n d_23_18 rfl rfl ?_
  refine g_iload_n d_23_19 rfl rfl ?_
  exact g_callVI (mj := 24) 6 [.ref v1, .int v2] [] d_23_20 wd_160 mo_24 mc_24 mv_24 rfl rfl rfl (Nat.le_of_ble_eq_true rfl) rfl hdd hC (fun x h' q => g_mask [false, false, false] (kk x h' q))

theorem k_23_23 {X : GX} {d : Nat} {h : Hp} {s0 : Int32} (kt : ¬ s0 = 0 → G X d 23 30 [none, none, none] [] h) (kf : s0 = 0 → G X d 23 26 [none, none, none] [] h) : G X d 23 23 [none, none, none] [.int s0] h := by
  exact g_if_ne (tgt := 30) d_23_23 (by decide) kt kf

theorem k_23_26 {X : GX} {d : Nat} {h : Hp} (hq : RtX X (some (.int 1)) h) : G X d 23 26 [none, none, none] [] h := by
  refine g_iconst (v := 1) d_23_26 (by decide) ?_
  refine g_goto (tgt := 31) d_23_27 (by decide) ?_
  exact g_retz d_23_31 rfl z01_1 hq

theorem k_23_30 {X : GX} {d : Nat} {h : Hp} (hq : RtX X (some (.int 0)) h) : G X d 23 30 [none, none, none] [] h := by
  refine g_iconst (v := 0) d_23_30 (by decide) ?_
  exact g_retz d_23_31 rfl z01_0 hq

/-! 24 PlayedTruth$Stage.will(LPlayedTruth$Moment;I)I -/
theorem k_24_0 {X : GX} {d : Nat} {h : Hp} {v1 : Nat} {v2 : Int32} (kt : ¬ (h 7 5) = 0 → G X d 24 12 [some (.ref 1), some (.ref v1), some (.int v2)] [] h) (kf : (h 7 5) = 0 → G X d 24 10 [none, none, none] [] h) : G X d 24 0 [some (.ref 1), some (.ref v1), some (.int v2)] [] h := by
  refine g_aload_n d_24_0 rfl rfl ?_
  refine g_getf (ci := 6) (k := 5) d_24_1 wd_24 (Nat.le_of_ble_eq_true rfl) rfl rfl ?_
  refine g_getf (ci := 5) (k := 5) d_24_4 wd_12 (Nat.le_of_ble_eq_true rfl) rfl rfl ?_
  exact g_if_ne (tgt := 12) d_24_7 (by decide) kt (fun q => g_mask [false, false, false] (kf q))

theorem k_24_10 {X : GX} {d : Nat} {h : Hp} (hq : RtX X (some (.int 0)) h) : G X d 24 10 [none, none, none] [] h := by
  refine g_iconst (v := 0) d_24_10 (by decide) ?_
  exact g_reti d_24_11 rfl hq

theorem k_24_12 {X : GX} {d : Nat} {h : Hp} {v1 : Nat} {v2 : Int32} {d' : Nat} {Q' : Int32 → Hp → Prop} (o0 : sh v1 = (1, 3)) (b1 : IA 12 0) (b2 : IA (v1 + 1) v2) (b3 : IA 12 1) (b4 : IA (v1 + 2) v2) (b5 : IA 12 2) (hdd : d' < d) (hC : CI d' 17 [.ref 1, .int ((wr (wr (wr h 12 (Int32.toNatClampNeg 0) (h v1 3)) 12 (Int32.toNatClampNeg 1) ((wr h 12 (Int32.toNatClampNeg 0) (h v1 3)) (v1 + 1) (Int32.toNatClampNeg v2))) 12 (Int32.toNatClampNeg 2) ((wr (wr h 12 (Int32.toNatClampNeg 0) (h v1 3)) 12 (Int32.toNatClampNeg 1) ((wr h 12 (Int32.toNatClampNeg 0) (h v1 3)) (v1 + 1) (Int32.toNatClampNeg v2))) (v1 + 2) (Int32.toNatClampNeg v2))) v1 3)] (wr (wr (wr h 12 (Int32.toNatClampNeg 0) (h v1 3)) 12 (Int32.toNatClampNeg 1) ((wr h 12 (Int32.toNatClampNeg 0) (h v1 3)) (v1 + 1) (Int32.toNatClampNeg v2))) 12 (Int32.toNatClampNeg 2) ((wr (wr h 12 (Int32.toNatClampNeg 0) (h v1 3)) 12 (Int32.toNatClampNeg 1) ((wr h 12 (Int32.toNatClampNeg 0) (h v1 3)) (v1 + 1) (Int32.toNatClampNeg v2))) (v1 + 2) (Int32.toNatClampNeg v2))) Q') (kk : ∀ x h', Q' x h' → G X d 24 59 [some (.ref 1), none, some (.int v2)] [.int x, .int 3, .ref 12] h') : G X d 24 12 [some (.ref 1), some (.ref v1), some (.int v2)] [] h := by
  refine g_aload_n d_24_12 rfl rfl ?_
  refine g_getf (ci := 6) (k := 6) d_24_13 wd_26 (Nat.le_of_ble_eq_true rfl) rfl rfl ?_
  refine g_iconst (v := 0) d_24_16 (by decide) ?_
  refine g_aload_n d_24_17 rfl rfl ?_
  refine g_getf (ci := 3) (k := 3) d_24_18 wd_45 (Nat.le_of_ble_eq_true rfl) rfl o0 ?_
  refine g_iast d_24_21 b1 ?_
  refine g_aload_n d_24_22 rfl rfl ?_
  refine g_getf (ci := 6) (k := 6) d_24_23 wd_26 (Nat.le_of_ble_eq_true rfl) rfl rfl ?_
  refine g_iconst (v := 1) d_24_26 (by decide) ?_
  refine g_aload_n d_24_27 rfl rfl ?_
  refine g_getf (ci := 3) (k := 0) d_24_28 wd_36 (Nat.le_of_ble_eq_true rfl) rfl o0 ?_
  refine g_iload_n d_24_31 rfl rfl ?_
  refine g_iald d_24_32 b2 ?_
  refine g_iast d_24_33 b3 ?_
  refine g_aload_n d_24_34 rfl rfl ?_
  refine g_getf (ci := 6) (k := 6) d_24_35 wd_26 (Nat.le_of_ble_eq_true rfl) rfl rfl ?_
  refine g_iconst (v := 2) d_24_38 (by decide) ?_
  refine g_aload_n d_24_39 rfl rfl ?_
  refine g_getf (ci := 3) (k := 1) d_24_40 wd_39 (Nat.le_of_ble_eq_true rfl) rfl o0 ?_
  refine g_iload_n d_24_43 rfl rfl ?_
  refine g_iald d_24_44 b4 ?_
  refine g_iast d_24_45 b5 ?_
  refine g_aload_n d_24_46 rfl rfl ?_
  refine g_getf (ci := 6) (k := 6) d_24_47 wd_26 (Nat.le_of_ble_eq_true rfl) rfl rfl ?_
  refine g_iconst (v := 3) d_24_50 (by decide) ?_
  refine g_aload_n d_24_51 rfl rfl ?_
  refine g_aload_n d_24_52 rfl rfl ?_
  refine g_getf (ci := 3) (k := 3) d_24_53 wd_45 (Nat.le_of_ble_eq_true rfl) rfl o0 ?_
  exact g_callVI (mj := 17) 6 [.int ((wr (wr (wr h 12 (Int32.toNatClampNeg 0) (h v1 3)) 12 (Int32.toNatClampNeg 1) ((wr h 12 (Int32.toNatClampNeg 0) (h v1 3)) (v1 + 1) (Int32.toNatClampNeg v2))) 12 (Int32.toNatClampNeg 2) ((wr (wr h 12 (Int32.toNatClampNeg 0) (h v1 3)) 12 (Int32.toNatClampNeg 1) ((wr h 12 (Int32.toNatClampNeg 0) (h v1 3)) (v1 + 1) (Int32.toNatClampNeg v2))) (v1 + 2) (Int32.toNatClampNeg v2))) v1 3)] [.int 3, .ref 12] d_24_56 wd_149 mo_17 mc_17 mv_17 rfl rfl rfl (Nat.le_of_ble_eq_true rfl) rfl hdd hC (fun x h' q => g_mask [true, false, true] (kk x h' q))

theorem k_24_59 {X : GX} {d : Nat} {h : Hp} {v2 : Int32} {s0 : Int32} {s1 : Int32} {s2 : Nat} {d' : Nat} {Q' : Int32 → Hp → Prop} (b0 : IA s2 s1) (b1 : IA 12 4) (b2 : IA 2 v2) (hdd : d' < d) (hC : CI d' 25 [.ref 7, .int ((wr (wr h s2 (Int32.toNatClampNeg s1) s0) 12 (Int32.toNatClampNeg 4) v2) 2 (Int32.toNatClampNeg v2)), .ref 12] (wr (wr h s2 (Int32.toNatClampNeg s1) s0) 12 (Int32.toNatClampNeg 4) v2) Q') (kk : ∀ x h', Q' x h' → G X d 24 84 [none, none, none] [.int x] h') : G X d 24 59 [some (.ref 1), none, some (.int v2)] [.int s0, .int s1, .ref s2] h := by
  refine g_iast d_24_59 b0 ?_
  refine g_aload_n d_24_60 rfl rfl ?_
  refine g_getf (ci := 6) (k := 6) d_24_61 wd_26 (Nat.le_of_ble_eq_true rfl) rfl rfl ?_
  refine g_iconst (v := 4) d_24_64 (by decide) ?_
  refine g_iload_n d_24_65 rfl rfl ?_
  refine g_iast d_24_66 b1 ?_
  refine g_aload_n d_24_67 rfl rfl ?_
  refine g_getf (ci := 6) (k := 5) d_24_68 wd_24 (Nat.le_of_ble_eq_true rfl) rfl rfl ?_
  refine g_aload_n d_24_71 rfl rfl ?_
  refine g_getf (ci := 6) (k := 0) d_24_72 wd_14 (Nat.le_of_ble_eq_true rfl) rfl rfl ?_
  refine g_iload_n d_24_75 rfl rfl ?_
  refine g_iald d_24_76 b2 ?_
  refine g_aload_n d_24_77 rfl rfl ?_
  refine g_getf (ci := 6) (k := 6) d_24_78 wd_26 (Nat.le_of_ble_eq_true rfl) rfl rfl ?_
  exact g_callVI (mj := 25) 5 [.int ((wr (wr h s2 (Int32.toNatClampNeg s1) s0) 12 (Int32.toNatClampNeg 4) v2) 2 (Int32.toNatClampNeg v2)), .ref 12] [] d_24_81 wd_161 mo_25 mc_25 mv_25 rfl rfl rfl (Nat.le_of_ble_eq_true rfl) rfl hdd hC (fun x h' q => g_mask [false, false, false] (kk x h' q))

theorem k_24_84 {X : GX} {d : Nat} {h : Hp} {s0 : Int32} (hq : RtX X (some (.int s0)) h) : G X d 24 84 [none, none, none] [.int s0] h := by
  exact g_reti d_24_84 rfl hq

/-! 38 PlayedTruth$Stage.isOver(LPlayedTruth$Moment;)Z -/
theorem k_38_0 {X : GX} {d : Nat} {h : Hp} {v1 : Nat} (o0 : sh v1 = (1, 3)) (kt : (h v1 3) < (h 1 8) → G X d 38 15 [none, none] [] h) (kf : ¬ (h v1 3) < (h 1 8) → G X d 38 11 [none, none] [] h) : G X d 38 0 [some (.ref 1), some (.ref v1)] [] h := by
  refine g_aload_n d_38_0 rfl rfl ?_
  refine g_getf (ci := 3) (k := 3) d_38_1 wd_45 (Nat.le_of_ble_eq_true rfl) rfl o0 ?_
  refine g_aload_n d_38_4 rfl rfl ?_
  refine g_getf (ci := 6) (k := 8) d_38_5 wd_30 (Nat.le_of_ble_eq_true rfl) rfl rfl ?_
  exact g_icmp_lt (tgt := 15) d_38_8 (by decide) (fun q => g_mask [false, false] (kt q)) (fun q => g_mask [false, false] (kf q))

theorem k_38_11 {X : GX} {d : Nat} {h : Hp} (hq : RtX X (some (.int 1)) h) : G X d 38 11 [none, none] [] h := by
  refine g_iconst (v := 1) d_38_11 (by decide) ?_
  refine g_goto (tgt := 16) d_38_12 (by decide) ?_
  exact g_retz d_38_16 rfl z01_1 hq

theorem k_38_15 {X : GX} {d : Nat} {h : Hp} (hq : RtX X (some (.int 0)) h) : G X d 38 15 [none, none] [] h := by
  refine g_iconst (v := 0) d_38_15 (by decide) ?_
  exact g_retz d_38_16 rfl z01_0 hq

/-! 39 PlayedTruth$Stage.houseOf(I)I -/
theorem k_39_0 {X : GX} {d : Nat} {h : Hp} {v1 : Int32} (kt : v1 < 0 → G X d 39 19 [none, none] [] h) (kf : ¬ v1 < 0 → G X d 39 4 [some (.ref 1), some (.int v1)] [] h) : G X d 39 0 [some (.ref 1), some (.int v1)] [] h := by
  refine g_iload_n d_39_0 rfl rfl ?_
  exact g_if_lt (tgt := 19) d_39_1 (by decide) (fun q => g_mask [false, false] (kt q)) kf

theorem k_39_4 {X : GX} {d : Nat} {h : Hp} {v1 : Int32} (kt : 16 ≤ v1 → G X d 39 19 [none, none] [] h) (kf : ¬ 16 ≤ v1 → G X d 39 10 [some (.ref 1), some (.int v1)] [] h) : G X d 39 4 [some (.ref 1), some (.int v1)] [] h := by
  refine g_iload_n d_39_4 rfl rfl ?_
  refine g_bipush (v := 16) d_39_5 (by decide) ?_
  exact g_icmp_ge (tgt := 19) d_39_7 (by decide) (fun q => g_mask [false, false] (kt q)) kf

theorem k_39_10 {X : GX} {d : Nat} {h : Hp} {v1 : Int32} (b0 : IA 4 v1) (hq : RtX X (some (.int (h 4 (Int32.toNatClampNeg v1)))) h) : G X d 39 10 [some (.ref 1), some (.int v1)] [] h := by
  refine g_aload_n d_39_10 rfl rfl ?_
  refine g_getf (ci := 6) (k := 2) d_39_11 wd_18 (Nat.le_of_ble_eq_true rfl) rfl rfl ?_
  refine g_iload_n d_39_14 rfl rfl ?_
  refine g_iald d_39_15 b0 ?_
  refine g_goto (tgt := 20) d_39_16 (by decide) ?_
  exact g_reti d_39_20 rfl hq

theorem k_39_19 {X : GX} {d : Nat} {h : Hp} (hq : RtX X (some (.int 0)) h) : G X d 39 19 [none, none] [] h := by
  refine g_iconst (v := 0) d_39_19 (by decide) ?_
  exact g_reti d_39_20 rfl hq

/-! 40 PlayedTruth$Stage.truthOfAll(LPlayedTruth$Moment;)I -/
theorem k_40_0 {X : GX} {d : Nat} {h : Hp} {v1 : Nat} (kk : G X d 40 4 [some (.ref 1), some (.ref v1), some (.int 0), some (.int 0)] [] h) : G X d 40 0 [some (.ref 1), some (.ref v1), none, none] [] h := by
  refine g_iconst (v := 0) d_40_0 (by decide) ?_
  refine g_istore_n d_40_1 rfl (Nat.le_of_ble_eq_true rfl) rfl ?_
  refine g_iconst (v := 0) d_40_2 (by decide) ?_
  refine g_istore_n d_40_3 rfl (Nat.le_of_ble_eq_true rfl) rfl ?_
  exact kk

theorem k_40_4 {X : GX} {d : Nat} {h : Hp} {v1 : Nat} {v2 : Int32} {v3 : Int32} (kt : (h 1 7) ≤ v3 → G X d 40 27 [none, none, some (.int v2), none] [] h) (kf : ¬ (h 1 7) ≤ v3 → G X d 40 12 [some (.ref 1), some (.ref v1), some (.int v2), some (.int v3)] [] h) : G X d 40 4 [some (.ref 1), some (.ref v1), some (.int v2), some (.int v3)] [] h := by
  refine g_iload_n d_40_4 rfl rfl ?_
  refine g_aload_n d_40_5 rfl rfl ?_
  refine g_getf (ci := 6) (k := 7) d_40_6 wd_27 (Nat.le_of_ble_eq_true rfl) rfl rfl ?_
  exact g_icmp_ge (tgt := 27) d_40_9 (by decide) (fun q => g_mask [false, false, true, false] (kt q)) kf

theorem k_40_12 {X : GX} {d : Nat} {h : Hp} {v1 : Nat} {v2 : Int32} {v3 : Int32} (o0 : sh v1 = (1, 3)) (b1 : IA (v1 + 1) v3) (kk : G X d 40 4 [some (.ref 1), some (.ref v1), some (.int (v2 + (h (v1 + 1) (Int32.toNatClampNeg v3)))), some (.int (v3 + 1))] [] h) : G X d 40 12 [some (.ref 1), some (.ref v1), some (.int v2), some (.int v3)] [] h := by
  refine g_iload_n d_40_12 rfl rfl ?_
  refine g_aload_n d_40_13 rfl rfl ?_
  refine g_getf (ci := 3) (k := 0) d_40_14 wd_36 (Nat.le_of_ble_eq_true rfl) rfl o0 ?_
  refine g_iload_n d_40_17 rfl rfl ?_
  refine g_iald d_40_18 b1 ?_
  refine g_iadd d_40_19 ?_
  refine g_istore_n d_40_20 rfl (Nat.le_of_ble_eq_true rfl) rfl ?_
  refine g_iinc (w := 1) d_40_21 rfl (by decide) (Nat.le_of_ble_eq_true rfl) rfl ?_
  refine g_goto (tgt := 4) d_40_24 (by decide) ?_
  exact kk

theorem k_40_27 {X : GX} {d : Nat} {h : Hp} {v2 : Int32} (hq : RtX X (some (.int v2)) h) : G X d 40 27 [none, none, some (.int v2), none] [] h := by
  refine g_iload_n d_40_27 rfl rfl ?_
  exact g_reti d_40_28 rfl hq

/-! 80 PlayedTruth$Stage.actOfRest(LPlayedTruth$Moment;)I -/
theorem k_80_0 {X : GX} {d : Nat} {h : Hp} {v1 : Nat} (kk : G X d 80 2 [some (.ref 1), some (.ref v1), some (.int 0)] [] h) : G X d 80 0 [some (.ref 1), some (.ref v1), none] [] h := by
  refine g_iconst (v := 0) d_80_0 (by decide) ?_
  refine g_istore_n d_80_1 rfl (Nat.le_of_ble_eq_true rfl) rfl ?_
  exact kk

theorem k_80_2 {X : GX} {d : Nat} {h : Hp} {v1 : Nat} {v2 : Int32} (kt : (h 1 7) ≤ v2 → G X d 80 29 [none, none, none] [] h) (kf : ¬ (h 1 7) ≤ v2 → G X d 80 10 [some (.ref 1), some (.ref v1), some (.int v2)] [] h) : G X d 80 2 [some (.ref 1), some (.ref v1), some (.int v2)] [] h := by
  refine g_iload_n d_80_2 rfl rfl ?_
  refine g_aload_n d_80_3 rfl rfl ?_
  refine g_getf (ci := 6) (k := 7) d_80_4 wd_27 (Nat.le_of_ble_eq_true rfl) rfl rfl ?_
  exact g_icmp_ge (tgt := 29) d_80_7 (by decide) (fun q => g_mask [false, false, false] (kt q)) kf

theorem k_80_10 {X : GX} {d : Nat} {h : Hp} {v1 : Nat} {v2 : Int32} {d' : Nat} {Q' : Int32 → Hp → Prop} (hdd : d' < d) (hC : CI d' 23 [.ref 1, .ref v1, .int v2] h Q') (kk : ∀ x h', Q' x h' → G X d 80 16 [some (.ref 1), some (.ref v1), some (.int v2)] [.int x] h') : G X d 80 10 [some (.ref 1), some (.ref v1), some (.int v2)] [] h := by
  refine g_aload_n d_80_10 rfl rfl ?_
  refine g_aload_n d_80_11 rfl rfl ?_
  refine g_iload_n d_80_12 rfl rfl ?_
  exact g_callVI (mj := 23) 6 [.ref v1, .int v2] [] d_80_13 wd_226 mo_23 mc_23 mv_23 rfl rfl rfl (Nat.le_of_ble_eq_true rfl) rfl hdd hC kk

theorem k_80_16 {X : GX} {d : Nat} {h : Hp} {v1 : Nat} {v2 : Int32} {s0 : Int32} (kt : s0 = 0 → G X d 80 23 [some (.ref 1), some (.ref v1), some (.int v2)] [] h) (kf : ¬ s0 = 0 → G X d 80 19 [none, none, some (.int v2)] [] h) : G X d 80 16 [some (.ref 1), some (.ref v1), some (.int v2)] [.int s0] h := by
  exact g_if_eq (tgt := 23) d_80_16 (by decide) kt (fun q => g_mask [false, false, true] (kf q))

theorem k_80_19 {X : GX} {d : Nat} {h : Hp} {v2 : Int32} (hq : RtX X (some (.int (v2 + 1))) h) : G X d 80 19 [none, none, some (.int v2)] [] h := by
  refine g_iload_n d_80_19 rfl rfl ?_
  refine g_iconst (v := 1) d_80_20 (by decide) ?_
  refine g_iadd d_80_21 ?_
  exact g_reti d_80_22 rfl hq

theorem k_80_23 {X : GX} {d : Nat} {h : Hp} {v1 : Nat} {v2 : Int32} (kk : G X d 80 2 [some (.ref 1), some (.ref v1), some (.int (v2 + 1))] [] h) : G X d 80 23 [some (.ref 1), some (.ref v1), some (.int v2)] [] h := by
  refine g_iinc (w := 1) d_80_23 rfl (by decide) (Nat.le_of_ble_eq_true rfl) rfl ?_
  refine g_goto (tgt := 2) d_80_26 (by decide) ?_
  exact kk

theorem k_80_29 {X : GX} {d : Nat} {h : Hp} (hq : RtX X (some (.int 0)) h) : G X d 80 29 [none, none, none] [] h := by
  refine g_iconst (v := 0) d_80_29 (by decide) ?_
  exact g_reti d_80_30 rfl hq

/-! 81 PlayedTruth$Stage.goBy(LPlayedTruth$Moment;I)I -/
theorem k_81_0 {X : GX} {d : Nat} {h : Hp} {v1 : Nat} {v2 : Int32} (kt : (v2 - 1) < 0 → G X d 81 62 [some (.ref 1), some (.ref v1), none, none, some (.int 0), none] [] h) (kf : ¬ (v2 - 1) < 0 → G X d 81 11 [some (.ref 1), some (.ref v1), none, some (.int (v2 - 1)), some (.int 0), none] [] h) : G X d 81 0 [some (.ref 1), some (.ref v1), some (.int v2), none, none, none] [] h := by
  refine g_iload_n d_81_0 rfl rfl ?_
  refine g_iconst (v := 1) d_81_1 (by decide) ?_
  refine g_isub d_81_2 ?_
  refine g_istore_n d_81_3 rfl (Nat.le_of_ble_eq_true rfl) rfl ?_
  refine g_iconst (v := 0) d_81_4 (by decide) ?_
  refine g_istore d_81_5 (Nat.le_of_ble_eq_true rfl) rfl ?_
  refine g_iload_n d_81_7 rfl rfl ?_
  exact g_if_lt (tgt := 62) d_81_8 (by decide) (fun q => g_mask [true, true, false, false, true, false] (kt q)) (fun q => g_mask [true, true, false, true, true, false] (kf q))

theorem k_81_11 {X : GX} {d : Nat} {h : Hp} {v1 : Nat} {v3 : Int32} {v4 : Int32} (kt : (h 1 7) ≤ v3 → G X d 81 62 [some (.ref 1), some (.ref v1), none, none, some (.int v4), none] [] h) (kf : ¬ (h 1 7) ≤ v3 → G X d 81 19 [some (.ref 1), some (.ref v1), none, some (.int v3), some (.int v4), none] [] h) : G X d 81 11 [some (.ref 1), some (.ref v1), none, some (.int v3), some (.int v4), none] [] h := by
  refine g_iload_n d_81_11 rfl rfl ?_
  refine g_aload_n d_81_12 rfl rfl ?_
  refine g_getf (ci := 6) (k := 7) d_81_13 wd_27 (Nat.le_of_ble_eq_true rfl) rfl rfl ?_
  exact g_icmp_ge (tgt := 62) d_81_16 (by decide) (fun q => g_mask [true, true, false, false, true, false] (kt q)) kf

theorem k_81_19 {X : GX} {d : Nat} {h : Hp} {v1 : Nat} {v3 : Int32} {v4 : Int32} {d' : Nat} {Q' : Int32 → Hp → Prop} (o0 : sh v1 = (1, 3)) (hdd : d' < d) (hC : CI d' 15 [.ref v1, .int v3] h Q') (kk : ∀ x h', Q' x h' → G X d 81 24 [some (.ref 1), some (.ref v1), none, some (.int v3), some (.int v4), none] [.int x] h') : G X d 81 19 [some (.ref 1), some (.ref v1), none, some (.int v3), some (.int v4), none] [] h := by
  refine g_aload_n d_81_19 rfl rfl ?_
  refine g_iload_n d_81_20 rfl rfl ?_
  exact g_callVI (mj := 15) 3 [.int v3] [] d_81_21 wd_153 mo_15 mc_15 mv_15 rfl rfl rfl (Nat.le_of_ble_eq_true rfl) o0 hdd hC kk

theorem k_81_24 {X : GX} {d : Nat} {h : Hp} {v1 : Nat} {v3 : Int32} {v4 : Int32} {s0 : Int32} (kt : ¬ s0 = 0 → G X d 81 62 [some (.ref 1), some (.ref v1), none, none, some (.int v4), none] [] h) (kf : s0 = 0 → G X d 81 27 [some (.ref 1), some (.ref v1), none, some (.int v3), some (.int v4), none] [] h) : G X d 81 24 [some (.ref 1), some (.ref v1), none, some (.int v3), some (.int v4), none] [.int s0] h := by
  exact g_if_ne (tgt := 62) d_81_24 (by decide) (fun q => g_mask [true, true, false, false, true, false] (kt q)) kf

theorem k_81_27 {X : GX} {d : Nat} {h : Hp} {v1 : Nat} {v3 : Int32} {v4 : Int32} {d' : Nat} {Q' : Int32 → Hp → Prop} (hdd : d' < d) (hC : CI d' 24 [.ref 1, .ref v1, .int v3] h Q') (kk : ∀ x h', Q' x h' → G X d 81 33 [some (.ref 1), some (.ref v1), none, some (.int v3), some (.int v4), none] [.int x] h') : G X d 81 27 [some (.ref 1), some (.ref v1), none, some (.int v3), some (.int v4), none] [] h := by
  refine g_aload_n d_81_27 rfl rfl ?_
  refine g_aload_n d_81_28 rfl rfl ?_
  refine g_iload_n d_81_29 rfl rfl ?_
  exact g_callVI (mj := 24) 6 [.ref v1, .int v3] [] d_81_30 wd_160 mo_24 mc_24 mv_24 rfl rfl rfl (Nat.le_of_ble_eq_true rfl) rfl hdd hC kk

theorem k_81_33 {X : GX} {d : Nat} {h : Hp} {v1 : Nat} {v3 : Int32} {v4 : Int32} {s0 : Int32} (kt : ¬ s0 = 0 → G X d 81 48 [some (.ref 1), some (.ref v1), none, some (.int v3), some (.int v4), some (.int s0)] [] h) (kf : s0 = 0 → G X d 81 40 [some (.ref 1), some (.ref v1), none, some (.int v3), none, some (.int s0)] [] h) : G X d 81 33 [some (.ref 1), some (.ref v1), none, some (.int v3), some (.int v4), none] [.int s0] h := by
  refine g_istore d_81_33 (Nat.le_of_ble_eq_true rfl) rfl ?_
  refine g_iload d_81_35 rfl ?_
  exact g_if_ne (tgt := 48) d_81_37 (by decide) kt (fun q => g_mask [true, true, false, true, false, true] (kf q))

theorem k_81_40 {X : GX} {d : Nat} {h : Hp} {v1 : Nat} {v3 : Int32} {v5 : Int32} {d' : Nat} {Q' : Int32 → Hp → Prop} (hdd : d' < d) (hC : CI d' 82 [.ref 1, .ref v1, .int v3] h Q') (kk : ∀ x h', Q' x h' → G X d 81 46 [some (.ref 1), some (.ref v1), none, some (.int v3), none, some (.int v5)] [.int x] h') : G X d 81 40 [some (.ref 1), some (.ref v1), none, some (.int v3), none, some (.int v5)] [] h := by
  refine g_aload_n d_81_40 rfl rfl ?_
  refine g_aload_n d_81_41 rfl rfl ?_
  refine g_iload_n d_81_42 rfl rfl ?_
  exact g_callVI (mj := 82) 6 [.ref v1, .int v3] [] d_81_43 wd_228 mo_82 mc_82 mv_82 rfl rfl rfl (Nat.le_of_ble_eq_true rfl) rfl hdd hC kk

theorem k_81_46 {X : GX} {d : Nat} {h : Hp} {v1 : Nat} {v3 : Int32} {v5 : Int32} {s0 : Int32} (kt : ¬ v5 = 2 → G X d 81 62 [some (.ref 1), some (.ref v1), none, none, some (.int s0), none] [] h) (kf : v5 = 2 → G X d 81 54 [some (.ref 1), some (.ref v1), none, some (.int v3), none, none] [] h) : G X d 81 46 [some (.ref 1), some (.ref v1), none, some (.int v3), none, some (.int v5)] [.int s0] h := by
  refine g_istore d_81_46 (Nat.le_of_ble_eq_true rfl) rfl ?_
  refine g_iload d_81_48 rfl ?_
  refine g_iconst (v := 2) d_81_50 (by decide) ?_
  exact g_icmp_ne (tgt := 62) d_81_51 (by decide) (fun q => g_mask [true, true, false, false, true, false] (kt q)) (fun q => g_mask [true, true, false, true, false, false] (kf q))

theorem k_81_48 {X : GX} {d : Nat} {h : Hp} {v1 : Nat} {v3 : Int32} {v4 : Int32} {v5 : Int32} (kt : ¬ v5 = 2 → G X d 81 62 [some (.ref 1), some (.ref v1), none, none, some (.int v4), none] [] h) (kf : v5 = 2 → G X d 81 54 [some (.ref 1), some (.ref v1), none, some (.int v3), none, none] [] h) : G X d 81 48 [some (.ref 1), some (.ref v1), none, some (.int v3), some (.int v4), some (.int v5)] [] h := by
  refine g_iload d_81_48 rfl ?_
  refine g_iconst (v := 2) d_81_50 (by decide) ?_
  exact g_icmp_ne (tgt := 62) d_81_51 (by decide) (fun q => g_mask [true, true, false, false, true, false] (kt q)) (fun q => g_mask [true, true, false, true, false, false] (kf q))

theorem k_81_54 {X : GX} {d : Nat} {h : Hp} {v1 : Nat} {v3 : Int32} {d' : Nat} {Q' : Int32 → Hp → Prop} (hdd : d' < d) (hC : CI d' 84 [.ref 1, .ref v1, .int v3] h Q') (kk : ∀ x h', Q' x h' → G X d 81 60 [some (.ref 1), some (.ref v1), none, none, none, none] [.int x] h') : G X d 81 54 [some (.ref 1), some (.ref v1), none, some (.int v3), none, none] [] h := by
  refine g_aload_n d_81_54 rfl rfl ?_
  refine g_aload_n d_81_55 rfl rfl ?_
  refine g_iload_n d_81_56 rfl rfl ?_
  exact g_callVI (mj := 84) 6 [.ref v1, .int v3] [] d_81_57 wd_230 mo_84 mc_84 mv_84 rfl rfl rfl (Nat.le_of_ble_eq_true rfl) rfl hdd hC (fun x h' q => g_mask [true, true, false, false, false, false] (kk x h' q))

theorem k_81_60 {X : GX} {d : Nat} {h : Hp} {v1 : Nat} {s0 : Int32} (kk : G X d 81 65 [some (.ref 1), some (.ref v1), none, none, some (.int s0), some (.int 0)] [] h) : G X d 81 60 [some (.ref 1), some (.ref v1), none, none, none, none] [.int s0] h := by
  refine g_istore d_81_60 (Nat.le_of_ble_eq_true rfl) rfl ?_
  refine g_iconst (v := 0) d_81_62 (by decide) ?_
  refine g_istore d_81_63 (Nat.le_of_ble_eq_true rfl) rfl ?_
  exact kk

theorem k_81_62 {X : GX} {d : Nat} {h : Hp} {v1 : Nat} {v4 : Int32} (kk : G X d 81 65 [some (.ref 1), some (.ref v1), none, none, some (.int v4), some (.int 0)] [] h) : G X d 81 62 [some (.ref 1), some (.ref v1), none, none, some (.int v4), none] [] h := by
  refine g_iconst (v := 0) d_81_62 (by decide) ?_
  refine g_istore d_81_63 (Nat.le_of_ble_eq_true rfl) rfl ?_
  exact kk

theorem k_81_65 {X : GX} {d : Nat} {h : Hp} {v1 : Nat} {v4 : Int32} {v5 : Int32} (kt : (h 1 7) ≤ v5 → G X d 81 92 [some (.ref 1), some (.ref v1), none, none, some (.int v4), none] [] h) (kf : ¬ (h 1 7) ≤ v5 → G X d 81 74 [some (.ref 1), some (.ref v1), none, none, some (.int v4), some (.int v5)] [] h) : G X d 81 65 [some (.ref 1), some (.ref v1), none, none, some (.int v4), some (.int v5)] [] h := by
  refine g_iload d_81_65 rfl ?_
  refine g_aload_n d_81_67 rfl rfl ?_
  refine g_getf (ci := 6) (k := 7) d_81_68 wd_27 (Nat.le_of_ble_eq_true rfl) rfl rfl ?_
  exact g_icmp_ge (tgt := 92) d_81_71 (by decide) (fun q => g_mask [true, true, false, false, true, false] (kt q)) kf

theorem k_81_74 {X : GX} {d : Nat} {h : Hp} {v1 : Nat} {v4 : Int32} {v5 : Int32} {d' : Nat} {Q' : Int32 → Hp → Prop} (hdd : d' < d) (hC : CI d' 21 [.ref 1, .ref v1, .int v5] h Q') (kk : ∀ x h', Q' x h' → G X d 81 83 [some (.ref 1), some (.ref v1), none, none, none, some (.int v5)] [.int x, .int v4] h') : G X d 81 74 [some (.ref 1), some (.ref v1), none, none, some (.int v4), some (.int v5)] [] h := by
  refine g_iload d_81_74 rfl ?_
  refine g_aload_n d_81_76 rfl rfl ?_
  refine g_aload_n d_81_77 rfl rfl ?_
  refine g_iload d_81_78 rfl ?_
  exact g_callVI (mj := 21) 6 [.ref v1, .int v5] [.int v4] d_81_80 wd_232 mo_21 mc_21 mv_21 rfl rfl rfl (Nat.le_of_ble_eq_true rfl) rfl hdd hC (fun x h' q => g_mask [true, true, false, false, false, true] (kk x h' q))

theorem k_81_83 {X : GX} {d : Nat} {h : Hp} {v1 : Nat} {v5 : Int32} {s0 : Int32} {s1 : Int32} (kk : G X d 81 65 [some (.ref 1), some (.ref v1), none, none, some (.int (s1 + s0)), some (.int (v5 + 1))] [] h) : G X d 81 83 [some (.ref 1), some (.ref v1), none, none, none, some (.int v5)] [.int s0, .int s1] h := by
  refine g_iadd d_81_83 ?_
  refine g_istore d_81_84 (Nat.le_of_ble_eq_true rfl) rfl ?_
  refine g_iinc (w := 1) d_81_86 rfl (by decide) (Nat.le_of_ble_eq_true rfl) rfl ?_
  refine g_goto (tgt := 65) d_81_89 (by decide) ?_
  exact kk

theorem k_81_92 {X : GX} {d : Nat} {h : Hp} {v1 : Nat} {v4 : Int32} (kk : G X d 81 95 [some (.ref 1), some (.ref v1), none, none, some (.int v4), some (.int 0)] [] h) : G X d 81 92 [some (.ref 1), some (.ref v1), none, none, some (.int v4), none] [] h := by
  refine g_iconst (v := 0) d_81_92 (by decide) ?_
  refine g_istore d_81_93 (Nat.le_of_ble_eq_true rfl) rfl ?_
  exact kk

theorem k_81_95 {X : GX} {d : Nat} {h : Hp} {v1 : Nat} {v4 : Int32} {v5 : Int32} (kt : (h 1 7) ≤ v5 → G X d 81 139 [none, some (.ref v1), none, none, some (.int v4), none] [] h) (kf : ¬ (h 1 7) ≤ v5 → G X d 81 104 [some (.ref 1), some (.ref v1), none, none, some (.int v4), some (.int v5)] [] h) : G X d 81 95 [some (.ref 1), some (.ref v1), none, none, some (.int v4), some (.int v5)] [] h := by
  refine g_iload d_81_95 rfl ?_
  refine g_aload_n d_81_97 rfl rfl ?_
  refine g_getf (ci := 6) (k := 7) d_81_98 wd_27 (Nat.le_of_ble_eq_true rfl) rfl rfl ?_
  exact g_icmp_ge (tgt := 139) d_81_101 (by decide) (fun q => g_mask [false, true, false, false, true, false] (kt q)) kf

theorem k_81_104 {X : GX} {d : Nat} {h : Hp} {v1 : Nat} {v4 : Int32} {v5 : Int32} {d' : Nat} {Q' : Int32 → Hp → Prop} (o0 : sh v1 = (1, 3)) (hdd : d' < d) (hC : CI d' 15 [.ref v1, .int v5] h Q') (kk : ∀ x h', Q' x h' → G X d 81 110 [some (.ref 1), some (.ref v1), none, none, some (.int v4), some (.int v5)] [.int x] h') : G X d 81 104 [some (.ref 1), some (.ref v1), none, none, some (.int v4), some (.int v5)] [] h := by
  refine g_aload_n d_81_104 rfl rfl ?_
  refine g_iload d_81_105 rfl ?_
  exact g_callVI (mj := 15) 3 [.int v5] [] d_81_107 wd_153 mo_15 mc_15 mv_15 rfl rfl rfl (Nat.le_of_ble_eq_true rfl) o0 hdd hC kk

theorem k_81_110 {X : GX} {d : Nat} {h : Hp} {v1 : Nat} {v4 : Int32} {v5 : Int32} {s0 : Int32} (kt : ¬ s0 = 0 → G X d 81 133 [some (.ref 1), some (.ref v1), none, none, some (.int v4), some (.int v5)] [] h) (kf : s0 = 0 → G X d 81 113 [some (.ref 1), some (.ref v1), none, none, some (.int v4), some (.int v5)] [] h) : G X d 81 110 [some (.ref 1), some (.ref v1), none, none, some (.int v4), some (.int v5)] [.int s0] h := by
  exact g_if_ne (tgt := 133) d_81_110 (by decide) kt kf

theorem k_81_113 {X : GX} {d : Nat} {h : Hp} {v1 : Nat} {v4 : Int32} {v5 : Int32} (o0 : sh v1 = (1, 3)) (b1 : IA (v1 + 1) v5) (dd2 : 0 < d) (kk : G X d 81 95 [some (.ref 1), some (.ref v1), none, none, some (.int v4), some (.int (v5 + 1))] [] (wr h (v1 + 1) (Int32.toNatClampNeg v5) (if 0 < ((h (v1 + 1) (Int32.toNatClampNeg v5)) - 1) then ((h (v1 + 1) (Int32.toNatClampNeg v5)) - 1) else 0))) : G X d 81 113 [some (.ref 1), some (.ref v1), none, none, some (.int v4), some (.int v5)] [] h := by
  refine g_aload_n d_81_113 rfl rfl ?_
  refine g_getf (ci := 3) (k := 0) d_81_114 wd_36 (Nat.le_of_ble_eq_true rfl) rfl o0 ?_
  refine g_iload d_81_117 rfl ?_
  refine g_iconst (v := 0) d_81_119 (by decide) ?_
  refine g_aload_n d_81_120 rfl rfl ?_
  refine g_getf (ci := 3) (k := 0) d_81_121 wd_36 (Nat.le_of_ble_eq_true rfl) rfl o0 ?_
  refine g_iload d_81_124 rfl ?_
  refine g_iald d_81_126 b1 ?_
  refine g_iconst (v := 1) d_81_127 (by decide) ?_
  refine g_isub d_81_128 ?_
  refine g_mmax d_81_129 wd_154 (Nat.le_of_ble_eq_true rfl) dd2 ?_
  refine g_iast d_81_132 b1 ?_
  refine g_iinc (w := 1) d_81_133 rfl (by decide) (Nat.le_of_ble_eq_true rfl) rfl ?_
  refine g_goto (tgt := 95) d_81_136 (by decide) ?_
  exact kk

theorem k_81_133 {X : GX} {d : Nat} {h : Hp} {v1 : Nat} {v4 : Int32} {v5 : Int32} (kk : G X d 81 95 [some (.ref 1), some (.ref v1), none, none, some (.int v4), some (.int (v5 + 1))] [] h) : G X d 81 133 [some (.ref 1), some (.ref v1), none, none, some (.int v4), some (.int v5)] [] h := by
  refine g_iinc (w := 1) d_81_133 rfl (by decide) (Nat.le_of_ble_eq_true rfl) rfl ?_
  refine g_goto (tgt := 95) d_81_136 (by decide) ?_
  exact kk

theorem k_81_139 {X : GX} {d : Nat} {h : Hp} {v1 : Nat} {v4 : Int32} (o0 : sh v1 = (1, 3)) (hq : RtX X (some (.int v4)) (wr (wr h v1 3 ((h v1 3) + 1)) v1 4 (((wr h v1 3 ((h v1 3) + 1)) v1 4) + v4))) : G X d 81 139 [none, some (.ref v1), none, none, some (.int v4), none] [] h := by
  refine g_aload_n d_81_139 rfl rfl ?_
  refine g_dup d_81_140 rfl ?_
  refine g_getf (ci := 3) (k := 3) d_81_141 wd_45 (Nat.le_of_ble_eq_true rfl) rfl o0 ?_
  refine g_iconst (v := 1) d_81_144 (by decide) ?_
  refine g_iadd d_81_145 ?_
  refine g_putf (ci := 3) (k := 3) d_81_146 wd_45 (Nat.le_of_ble_eq_true rfl) (Nat.le_of_ble_eq_true rfl) rfl rfl (Or.inl ⟨rfl, rfl⟩) o0 ?_
  refine g_aload_n d_81_149 rfl rfl ?_
  refine g_dup d_81_150 rfl ?_
  refine g_getf (ci := 3) (k := 4) d_81_151 wd_51 (Nat.le_of_ble_eq_true rfl) rfl o0 ?_
  refine g_iload d_81_154 rfl ?_
  refine g_iadd d_81_156 ?_
  refine g_putf (ci := 3) (k := 4) d_81_157 wd_51 (Nat.le_of_ble_eq_true rfl) (Nat.le_of_ble_eq_true rfl) rfl rfl (Or.inl ⟨rfl, rfl⟩) o0 ?_
  refine g_iload d_81_160 rfl ?_
  exact g_reti d_81_162 rfl hq

/-! 82 PlayedTruth$Stage.mend(LPlayedTruth$Moment;I)I -/
theorem k_82_0 {X : GX} {d : Nat} {h : Hp} {v1 : Nat} {v2 : Int32} {d' : Nat} {Q' : Int32 → Hp → Prop} (hdd : d' < d) (hC : CI d' 16 [.ref 1, .ref v1, .int v2] h Q') (kk : ∀ x h', Q' x h' → G X d 82 6 [none, some (.ref v1), some (.int v2), none] [.int x] h') : G X d 82 0 [some (.ref 1), some (.ref v1), some (.int v2), none] [] h := by
  refine g_aload_n d_82_0 rfl rfl ?_
  refine g_aload_n d_82_1 rfl rfl ?_
  refine g_iload_n d_82_2 rfl rfl ?_
  exact g_callVI (mj := 16) 6 [.ref v1, .int v2] [] d_82_3 wd_159 mo_16 mc_16 mv_16 rfl rfl rfl (Nat.le_of_ble_eq_true rfl) rfl hdd hC (fun x h' q => g_mask [false, true, true, false] (kk x h' q))

theorem k_82_6 {X : GX} {d : Nat} {h : Hp} {v1 : Nat} {v2 : Int32} {s0 : Int32} (o0 : sh v1 = (1, 3)) (b1 : IA (v1 + 1) v2) (dd2 : 0 < d) (kt : ((wr h (v1 + 1) (Int32.toNatClampNeg v2) (if ((h (v1 + 1) (Int32.toNatClampNeg v2)) + s0) < 99 then ((h (v1 + 1) (Int32.toNatClampNeg v2)) + s0) else 99)) (v1 + 1) (Int32.toNatClampNeg v2)) < 60 → G X d 82 49 [none, none, none, some (.int s0)] [] (wr h (v1 + 1) (Int32.toNatClampNeg v2) (if ((h (v1 + 1) (Int32.toNatClampNeg v2)) + s0) < 99 then ((h (v1 + 1) (Int32.toNatClampNeg v2)) + s0) else 99))) (kf : ¬ ((wr h (v1 + 1) (Int32.toNatClampNeg v2) (if ((h (v1 + 1) (Int32.toNatClampNeg v2)) + s0) < 99 then ((h (v1 + 1) (Int32.toNatClampNeg v2)) + s0) else 99)) (v1 + 1) (Int32.toNatClampNeg v2)) < 60 → G X d 82 37 [none, some (.ref v1), some (.int v2), some (.int s0)] [] (wr h (v1 + 1) (Int32.toNatClampNeg v2) (if ((h (v1 + 1) (Int32.toNatClampNeg v2)) + s0) < 99 then ((h (v1 + 1) (Int32.toNatClampNeg v2)) + s0) else 99))) : G X d 82 6 [none, some (.ref v1), some (.int v2), none] [.int s0] h := by
  refine g_istore_n d_82_6 rfl (Nat.le_of_ble_eq_true rfl) rfl ?_
  refine g_aload_n d_82_7 rfl rfl ?_
  refine g_getf (ci := 3) (k := 0) d_82_8 wd_36 (Nat.le_of_ble_eq_true rfl) rfl o0 ?_
  refine g_iload_n d_82_11 rfl rfl ?_
  refine g_bipush (v := 99) d_82_12 (by decide) ?_
  refine g_aload_n d_82_14 rfl rfl ?_
  refine g_getf (ci := 3) (k := 0) d_82_15 wd_36 (Nat.le_of_ble_eq_true rfl) rfl o0 ?_
  refine g_iload_n d_82_18 rfl rfl ?_
  refine g_iald d_82_19 b1 ?_
  refine g_iload_n d_82_20 rfl rfl ?_
  refine g_iadd d_82_21 ?_
  refine g_mmin d_82_22 wd_229 (Nat.le_of_ble_eq_true rfl) dd2 ?_
  refine g_iast d_82_25 b1 ?_
  refine g_aload_n d_82_26 rfl rfl ?_
  refine g_getf (ci := 3) (k := 0) d_82_27 wd_36 (Nat.le_of_ble_eq_true rfl) rfl o0 ?_
  refine g_iload_n d_82_30 rfl rfl ?_
  refine g_iald d_82_31 b1 ?_
  refine g_bipush (v := 60) d_82_32 (by decide) ?_
  exact g_icmp_lt (tgt := 49) d_82_34 (by decide) (fun q => g_mask [false, false, false, true] (kt q)) kf

theorem k_82_37 {X : GX} {d : Nat} {h : Hp} {v1 : Nat} {v2 : Int32} {v3 : Int32} (o0 : sh v1 = (1, 3)) (hq : RtX X (some (.int v3)) (wr h v1 2 ((h v1 2) ||| (1 <<< (v2 &&& 31))))) : G X d 82 37 [none, some (.ref v1), some (.int v2), some (.int v3)] [] h := by
  refine g_aload_n d_82_37 rfl rfl ?_
  refine g_dup d_82_38 rfl ?_
  refine g_getf (ci := 3) (k := 2) d_82_39 wd_43 (Nat.le_of_ble_eq_true rfl) rfl o0 ?_
  refine g_iconst (v := 1) d_82_42 (by decide) ?_
  refine g_iload_n d_82_43 rfl rfl ?_
  refine g_ishl d_82_44 ?_
  refine g_ior d_82_45 ?_
  refine g_putf (ci := 3) (k := 2) d_82_46 wd_43 (Nat.le_of_ble_eq_true rfl) (Nat.le_of_ble_eq_true rfl) rfl rfl (Or.inl ⟨rfl, rfl⟩) o0 ?_
  refine g_iload_n d_82_49 rfl rfl ?_
  exact g_reti d_82_50 rfl hq

theorem k_82_49 {X : GX} {d : Nat} {h : Hp} {v3 : Int32} (hq : RtX X (some (.int v3)) h) : G X d 82 49 [none, none, none, some (.int v3)] [] h := by
  refine g_iload_n d_82_49 rfl rfl ?_
  exact g_reti d_82_50 rfl hq

/-! 84 PlayedTruth$Stage.trim(LPlayedTruth$Moment;I)I -/
theorem k_84_0 {X : GX} {d : Nat} {h : Hp} {v1 : Nat} {v2 : Int32} {d' : Nat} {Q' : Int32 → Hp → Prop} (o0 : sh v1 = (1, 3)) (b1 : IA (v1 + 2) v2) (dd2 : 0 < d) (b3 : IA (v1 + 1) v2) (hdd : d' < d) (hC : CI d' 39 [.ref 1, .int ((wr (wr h (v1 + 2) (Int32.toNatClampNeg v2) (if ((h (v1 + 2) (Int32.toNatClampNeg v2)) + 1) < 9 then ((h (v1 + 2) (Int32.toNatClampNeg v2)) + 1) else 9)) (v1 + 1) (Int32.toNatClampNeg v2) (if 0 < (((wr h (v1 + 2) (Int32.toNatClampNeg v2) (if ((h (v1 + 2) (Int32.toNatClampNeg v2)) + 1) < 9 then ((h (v1 + 2) (Int32.toNatClampNeg v2)) + 1) else 9)) (v1 + 1) (Int32.toNatClampNeg v2)) - 10) then (((wr h (v1 + 2) (Int32.toNatClampNeg v2) (if ((h (v1 + 2) (Int32.toNatClampNeg v2)) + 1) < 9 then ((h (v1 + 2) (Int32.toNatClampNeg v2)) + 1) else 9)) (v1 + 1) (Int32.toNatClampNeg v2)) - 10) else 0)) v1 3)] (wr (wr h (v1 + 2) (Int32.toNatClampNeg v2) (if ((h (v1 + 2) (Int32.toNatClampNeg v2)) + 1) < 9 then ((h (v1 + 2) (Int32.toNatClampNeg v2)) + 1) else 9)) (v1 + 1) (Int32.toNatClampNeg v2) (if 0 < (((wr h (v1 + 2) (Int32.toNatClampNeg v2) (if ((h (v1 + 2) (Int32.toNatClampNeg v2)) + 1) < 9 then ((h (v1 + 2) (Int32.toNatClampNeg v2)) + 1) else 9)) (v1 + 1) (Int32.toNatClampNeg v2)) - 10) then (((wr h (v1 + 2) (Int32.toNatClampNeg v2) (if ((h (v1 + 2) (Int32.toNatClampNeg v2)) + 1) < 9 then ((h (v1 + 2) (Int32.toNatClampNeg v2)) + 1) else 9)) (v1 + 1) (Int32.toNatClampNeg v2)) - 10) else 0)) Q') (kk : ∀ x h', Q' x h' → G X d 84 47 [none, none, none] [.int x, .int 2] h') : G X d 84 0 [some (.ref 1), some (.ref v1), some (.int v2)] [] h := by
  refine g_aload_n d_84_0 rfl rfl ?_
  refine g_getf (ci := 3) (k := 1) d_84_1 wd_39 (Nat.le_of_ble_eq_true rfl) rfl o0 ?_
  refine g_iload_n d_84_4 rfl rfl ?_
  refine g_bipush (v := 9) d_84_5 (by decide) ?_
  refine g_aload_n d_84_7 rfl rfl ?_
  refine g_getf (ci := 3) (k := 1) d_84_8 wd_39 (Nat.le_of_ble_eq_true rfl) rfl o0 ?_
  refine g_iload_n d_84_11 rfl rfl ?_
  refine g_iald d_84_12 b1 ?_
  refine g_iconst (v := 1) d_84_13 (by decide) ?_
  refine g_iadd d_84_14 ?_
  refine g_mmin d_84_15 wd_229 (Nat.le_of_ble_eq_true rfl) dd2 ?_
  refine g_iast d_84_18 b1 ?_
  refine g_aload_n d_84_19 rfl rfl ?_
  refine g_getf (ci := 3) (k := 0) d_84_20 wd_36 (Nat.le_of_ble_eq_true rfl) rfl o0 ?_
  refine g_iload_n d_84_23 rfl rfl ?_
  refine g_iconst (v := 0) d_84_24 (by decide) ?_
  refine g_aload_n d_84_25 rfl rfl ?_
  refine g_getf (ci := 3) (k := 0) d_84_26 wd_36 (Nat.le_of_ble_eq_true rfl) rfl o0 ?_
  refine g_iload_n d_84_29 rfl rfl ?_
  refine g_iald d_84_30 b3 ?_
  refine g_bipush (v := 10) d_84_31 (by decide) ?_
  refine g_isub d_84_33 ?_
  refine g_mmax d_84_34 wd_154 (Nat.le_of_ble_eq_true rfl) dd2 ?_
  refine g_iast d_84_37 b3 ?_
  refine g_iconst (v := 2) d_84_38 (by decide) ?_
  refine g_aload_n d_84_39 rfl rfl ?_
  refine g_aload_n d_84_40 rfl rfl ?_
  refine g_getf (ci := 3) (k := 3) d_84_41 wd_45 (Nat.le_of_ble_eq_true rfl) rfl o0 ?_
  exact g_callVI (mj := 39) 6 [.int ((wr (wr h (v1 + 2) (Int32.toNatClampNeg v2) (if ((h (v1 + 2) (Int32.toNatClampNeg v2)) + 1) < 9 then ((h (v1 + 2) (Int32.toNatClampNeg v2)) + 1) else 9)) (v1 + 1) (Int32.toNatClampNeg v2) (if 0 < (((wr h (v1 + 2) (Int32.toNatClampNeg v2) (if ((h (v1 + 2) (Int32.toNatClampNeg v2)) + 1) < 9 then ((h (v1 + 2) (Int32.toNatClampNeg v2)) + 1) else 9)) (v1 + 1) (Int32.toNatClampNeg v2)) - 10) then (((wr h (v1 + 2) (Int32.toNatClampNeg v2) (if ((h (v1 + 2) (Int32.toNatClampNeg v2)) + 1) < 9 then ((h (v1 + 2) (Int32.toNatClampNeg v2)) + 1) else 9)) (v1 + 1) (Int32.toNatClampNeg v2)) - 10) else 0)) v1 3)] [.int 2] d_84_44 wd_231 mo_39 mc_39 mv_39 rfl rfl rfl (Nat.le_of_ble_eq_true rfl) rfl hdd hC (fun x h' q => g_mask [false, false, false] (kk x h' q))

theorem k_84_47 {X : GX} {d : Nat} {h : Hp} {s0 : Int32} {s1 : Int32} (hq : RtX X (some (.int (s1 * (s0 - s0 / 4 * 4)))) h) : G X d 84 47 [none, none, none] [.int s0, .int s1] h := by
  refine g_iconst (v := 4) d_84_47 (by decide) ?_
  refine g_irem d_84_48 (by decide) ?_
  refine g_imul d_84_49 ?_
  exact g_reti d_84_50 rfl hq

/-! 97 PlayedTruth$Stage.scenesIn(I)I -/
theorem k_97_0 {X : GX} {d : Nat} {h : Hp} {v1 : Int32} (kk : G X d 97 4 [some (.ref 1), some (.int v1), some (.int 0), some (.int 0)] [] h) : G X d 97 0 [some (.ref 1), some (.int v1), none, none] [] h := by
  refine g_iconst (v := 0) d_97_0 (by decide) ?_
  refine g_istore_n d_97_1 rfl (Nat.le_of_ble_eq_true rfl) rfl ?_
  refine g_iconst (v := 0) d_97_2 (by decide) ?_
  refine g_istore_n d_97_3 rfl (Nat.le_of_ble_eq_true rfl) rfl ?_
  exact kk

theorem k_97_4 {X : GX} {d : Nat} {h : Hp} {v1 : Int32} {v2 : Int32} {v3 : Int32} (kt : (h 1 7) ≤ v3 → G X d 97 34 [none, none, some (.int v2), none] [] h) (kf : ¬ (h 1 7) ≤ v3 → G X d 97 12 [some (.ref 1), some (.int v1), some (.int v2), some (.int v3)] [] h) : G X d 97 4 [some (.ref 1), some (.int v1), some (.int v2), some (.int v3)] [] h := by
  refine g_iload_n d_97_4 rfl rfl ?_
  refine g_aload_n d_97_5 rfl rfl ?_
  refine g_getf (ci := 6) (k := 7) d_97_6 wd_27 (Nat.le_of_ble_eq_true rfl) rfl rfl ?_
  exact g_icmp_ge (tgt := 34) d_97_9 (by decide) (fun q => g_mask [false, false, true, false] (kt q)) kf

theorem k_97_12 {X : GX} {d : Nat} {h : Hp} {v1 : Int32} {v2 : Int32} {v3 : Int32} (b0 : IA 3 v3) (kt : ¬ (h 3 (Int32.toNatClampNeg v3)) = v1 → G X d 97 28 [some (.ref 1), some (.int v1), some (.int v2), some (.int v3)] [] h) (kf : (h 3 (Int32.toNatClampNeg v3)) = v1 → G X d 97 22 [some (.ref 1), some (.int v1), some (.int v2), some (.int v3)] [] h) : G X d 97 12 [some (.ref 1), some (.int v1), some (.int v2), some (.int v3)] [] h := by
  refine g_aload_n d_97_12 rfl rfl ?_
  refine g_getf (ci := 6) (k := 1) d_97_13 wd_16 (Nat.le_of_ble_eq_true rfl) rfl rfl ?_
  refine g_iload_n d_97_16 rfl rfl ?_
  refine g_iald d_97_17 b0 ?_
  refine g_iload_n d_97_18 rfl rfl ?_
  exact g_icmp_ne (tgt := 28) d_97_19 (by decide) kt kf

theorem k_97_22 {X : GX} {d : Nat} {h : Hp} {v1 : Int32} {v2 : Int32} {v3 : Int32} (kk : G X d 97 4 [some (.ref 1), some (.int v1), some (.int (v2 ||| (1 <<< (v3 &&& 31)))), some (.int (v3 + 1))] [] h) : G X d 97 22 [some (.ref 1), some (.int v1), some (.int v2), some (.int v3)] [] h := by
  refine g_iload_n d_97_22 rfl rfl ?_
  refine g_iconst (v := 1) d_97_23 (by decide) ?_
  refine g_iload_n d_97_24 rfl rfl ?_
  refine g_ishl d_97_25 ?_
  refine g_ior d_97_26 ?_
  refine g_istore_n d_97_27 rfl (Nat.le_of_ble_eq_true rfl) rfl ?_
  refine g_iinc (w := 1) d_97_28 rfl (by decide) (Nat.le_of_ble_eq_true rfl) rfl ?_
  refine g_goto (tgt := 4) d_97_31 (by decide) ?_
  exact kk

theorem k_97_28 {X : GX} {d : Nat} {h : Hp} {v1 : Int32} {v2 : Int32} {v3 : Int32} (kk : G X d 97 4 [some (.ref 1), some (.int v1), some (.int v2), some (.int (v3 + 1))] [] h) : G X d 97 28 [some (.ref 1), some (.int v1), some (.int v2), some (.int v3)] [] h := by
  refine g_iinc (w := 1) d_97_28 rfl (by decide) (Nat.le_of_ble_eq_true rfl) rfl ?_
  refine g_goto (tgt := 4) d_97_31 (by decide) ?_
  exact kk

theorem k_97_34 {X : GX} {d : Nat} {h : Hp} {v2 : Int32} (hq : RtX X (some (.int v2)) h) : G X d 97 34 [none, none, some (.int v2), none] [] h := by
  refine g_iload_n d_97_34 rfl rfl ?_
  exact g_reti d_97_35 rfl hq

/-! 102 PlayedTruth$Stage.areClose(LPlayedTruth$Moment;II)Z -/
theorem k_102_0 {X : GX} {d : Nat} {h : Hp} {v1 : Nat} {v2 : Int32} {v3 : Int32} {d' : Nat} {Q' : Int32 → Hp → Prop} (o0 : sh v1 = (1, 3)) (hdd : d' < d) (hC : CI d' 15 [.ref v1, .int v2] h Q') (kk : ∀ x h', Q' x h' → G X d 102 5 [some (.ref 1), some (.ref v1), some (.int v2), some (.int v3)] [.int x] h') : G X d 102 0 [some (.ref 1), some (.ref v1), some (.int v2), some (.int v3)] [] h := by
  refine g_aload_n d_102_0 rfl rfl ?_
  refine g_iload_n d_102_1 rfl rfl ?_
  exact g_callVI (mj := 15) 3 [.int v2] [] d_102_2 wd_153 mo_15 mc_15 mv_15 rfl rfl rfl (Nat.le_of_ble_eq_true rfl) o0 hdd hC kk

theorem k_102_5 {X : GX} {d : Nat} {h : Hp} {v1 : Nat} {v2 : Int32} {v3 : Int32} {s0 : Int32} (kt : ¬ s0 = 0 → G X d 102 16 [none, none, none, none] [] h) (kf : s0 = 0 → G X d 102 8 [some (.ref 1), some (.ref v1), some (.int v2), some (.int v3)] [] h) : G X d 102 5 [some (.ref 1), some (.ref v1), some (.int v2), some (.int v3)] [.int s0] h := by
  exact g_if_ne (tgt := 16) d_102_5 (by decide) (fun q => g_mask [false, false, false, false] (kt q)) kf

theorem k_102_8 {X : GX} {d : Nat} {h : Hp} {v1 : Nat} {v2 : Int32} {v3 : Int32} {d' : Nat} {Q' : Int32 → Hp → Prop} (o0 : sh v1 = (1, 3)) (hdd : d' < d) (hC : CI d' 15 [.ref v1, .int v3] h Q') (kk : ∀ x h', Q' x h' → G X d 102 13 [some (.ref 1), some (.ref v1), some (.int v2), some (.int v3)] [.int x] h') : G X d 102 8 [some (.ref 1), some (.ref v1), some (.int v2), some (.int v3)] [] h := by
  refine g_aload_n d_102_8 rfl rfl ?_
  refine g_iload_n d_102_9 rfl rfl ?_
  exact g_callVI (mj := 15) 3 [.int v3] [] d_102_10 wd_153 mo_15 mc_15 mv_15 rfl rfl rfl (Nat.le_of_ble_eq_true rfl) o0 hdd hC kk

theorem k_102_13 {X : GX} {d : Nat} {h : Hp} {v1 : Nat} {v2 : Int32} {v3 : Int32} {s0 : Int32} (kt : s0 = 0 → G X d 102 18 [some (.ref 1), some (.ref v1), some (.int v2), some (.int v3)] [] h) (kf : ¬ s0 = 0 → G X d 102 16 [none, none, none, none] [] h) : G X d 102 13 [some (.ref 1), some (.ref v1), some (.int v2), some (.int v3)] [.int s0] h := by
  exact g_if_eq (tgt := 18) d_102_13 (by decide) kt (fun q => g_mask [false, false, false, false] (kf q))

theorem k_102_16 {X : GX} {d : Nat} {h : Hp} (hq : RtX X (some (.int 0)) h) : G X d 102 16 [none, none, none, none] [] h := by
  refine g_iconst (v := 0) d_102_16 (by decide) ?_
  exact g_retz d_102_17 rfl z01_0 hq

theorem k_102_18 {X : GX} {d : Nat} {h : Hp} {v1 : Nat} {v2 : Int32} {v3 : Int32} (b0 : IA 3 v2) (b1 : IA 3 v3) (kt : (h 3 (Int32.toNatClampNeg v2)) = (h 3 (Int32.toNatClampNeg v3)) → G X d 102 53 [none, none, none, none] [] h) (kf : ¬ (h 3 (Int32.toNatClampNeg v2)) = (h 3 (Int32.toNatClampNeg v3)) → G X d 102 33 [none, some (.ref v1), some (.int v2), some (.int v3)] [] h) : G X d 102 18 [some (.ref 1), some (.ref v1), some (.int v2), some (.int v3)] [] h := by
  refine g_aload_n d_102_18 rfl rfl ?_
  refine g_getf (ci := 6) (k := 1) d_102_19 wd_16 (Nat.le_of_ble_eq_true rfl) rfl rfl ?_
  refine g_iload_n d_102_22 rfl rfl ?_
  refine g_iald d_102_23 b0 ?_
  refine g_aload_n d_102_24 rfl rfl ?_
  refine g_getf (ci := 6) (k := 1) d_102_25 wd_16 (Nat.le_of_ble_eq_true rfl) rfl rfl ?_
  refine g_iload_n d_102_28 rfl rfl ?_
  refine g_iald d_102_29 b1 ?_
  exact g_icmp_eq (tgt := 53) d_102_30 (by decide) (fun q => g_mask [false, false, false, false] (kt q)) (fun q => g_mask [false, true, true, true] (kf q))

theorem k_102_33 {X : GX} {d : Nat} {h : Hp} {v1 : Nat} {v2 : Int32} {v3 : Int32} (o0 : sh v1 = (1, 3)) (b1 : IA (v1 + 1) v2) (b2 : IA (v1 + 1) v3) (dd3 : 0 < d) (kt : 3 < (if 0 ≤ ((h (v1 + 1) (Int32.toNatClampNeg v2)) - (h (v1 + 1) (Int32.toNatClampNeg v3))) then ((h (v1 + 1) (Int32.toNatClampNeg v2)) - (h (v1 + 1) (Int32.toNatClampNeg v3))) else 0 - ((h (v1 + 1) (Int32.toNatClampNeg v2)) - (h (v1 + 1) (Int32.toNatClampNeg v3)))) → G X d 102 57 [none, none, none, none] [] h) (kf : ¬ 3 < (if 0 ≤ ((h (v1 + 1) (Int32.toNatClampNeg v2)) - (h (v1 + 1) (Int32.toNatClampNeg v3))) then ((h (v1 + 1) (Int32.toNatClampNeg v2)) - (h (v1 + 1) (Int32.toNatClampNeg v3))) else 0 - ((h (v1 + 1) (Int32.toNatClampNeg v2)) - (h (v1 + 1) (Int32.toNatClampNeg v3)))) → G X d 102 53 [none, none, none, none] [] h) : G X d 102 33 [none, some (.ref v1), some (.int v2), some (.int v3)] [] h := by
  refine g_aload_n d_102_33 rfl rfl ?_
  refine g_getf (ci := 3) (k := 0) d_102_34 wd_36 (Nat.le_of_ble_eq_true rfl) rfl o0 ?_
  refine g_iload_n d_102_37 rfl rfl ?_
  refine g_iald d_102_38 b1 ?_
  refine g_aload_n d_102_39 rfl rfl ?_
  refine g_getf (ci := 3) (k := 0) d_102_40 wd_36 (Nat.le_of_ble_eq_true rfl) rfl o0 ?_
  refine g_iload_n d_102_43 rfl rfl ?_
  refine g_iald d_102_44 b2 ?_
  refine g_isub d_102_45 ?_
  refine g_mabs d_102_46 wd_257 (Nat.le_of_ble_eq_true rfl) dd3 ?_
  refine g_iconst (v := 3) d_102_49 (by decide) ?_
  exact g_icmp_gt (tgt := 57) d_102_50 (by decide) (fun q => g_mask [false, false, false, false] (kt q)) (fun q => g_mask [false, false, false, false] (kf q))

theorem k_102_53 {X : GX} {d : Nat} {h : Hp} (hq : RtX X (some (.int 1)) h) : G X d 102 53 [none, none, none, none] [] h := by
  refine g_iconst (v := 1) d_102_53 (by decide) ?_
  refine g_goto (tgt := 58) d_102_54 (by decide) ?_
  exact g_retz d_102_58 rfl z01_1 hq

theorem k_102_57 {X : GX} {d : Nat} {h : Hp} (hq : RtX X (some (.int 0)) h) : G X d 102 57 [none, none, none, none] [] h := by
  refine g_iconst (v := 0) d_102_57 (by decide) ?_
  exact g_retz d_102_58 rfl z01_0 hq

/-! 106 PlayedTruth$Stage.drawnBy(LPlayedTruth$Moment;I)I -/
theorem k_106_0 {X : GX} {d : Nat} {h : Hp} {v1 : Nat} {v2 : Int32} (kk : G X d 106 5 [some (.ref 1), some (.ref v1), some (.int v2), some (.int 0), some (.int 0)] [] h) : G X d 106 0 [some (.ref 1), some (.ref v1), some (.int v2), none, none] [] h := by
  refine g_iconst (v := 0) d_106_0 (by decide) ?_
  refine g_istore_n d_106_1 rfl (Nat.le_of_ble_eq_true rfl) rfl ?_
  refine g_iconst (v := 0) d_106_2 (by decide) ?_
  refine g_istore d_106_3 (Nat.le_of_ble_eq_true rfl) rfl ?_
  exact kk

theorem k_106_5 {X : GX} {d : Nat} {h : Hp} {v1 : Nat} {v2 : Int32} {v3 : Int32} {v4 : Int32} (kt : (h 1 7) ≤ v4 → G X d 106 40 [none, none, none, some (.int v3), none] [] h) (kf : ¬ (h 1 7) ≤ v4 → G X d 106 14 [some (.ref 1), some (.ref v1), some (.int v2), some (.int v3), some (.int v4)] [] h) : G X d 106 5 [some (.ref 1), some (.ref v1), some (.int v2), some (.int v3), some (.int v4)] [] h := by
  refine g_iload d_106_5 rfl ?_
  refine g_aload_n d_106_7 rfl rfl ?_
  refine g_getf (ci := 6) (k := 7) d_106_8 wd_27 (Nat.le_of_ble_eq_true rfl) rfl rfl ?_
  exact g_icmp_ge (tgt := 40) d_106_11 (by decide) (fun q => g_mask [false, false, false, true, false] (kt q)) kf

theorem k_106_14 {X : GX} {d : Nat} {h : Hp} {v1 : Nat} {v2 : Int32} {v3 : Int32} {v4 : Int32} (kt : ¬ ((v2 >>> (v4 &&& 31)) &&& 1) = 1 → G X d 106 34 [some (.ref 1), some (.ref v1), some (.int v2), some (.int v3), some (.int v4)] [] h) (kf : ((v2 >>> (v4 &&& 31)) &&& 1) = 1 → G X d 106 24 [some (.ref 1), some (.ref v1), some (.int v2), some (.int v3), some (.int v4)] [] h) : G X d 106 14 [some (.ref 1), some (.ref v1), some (.int v2), some (.int v3), some (.int v4)] [] h := by
  refine g_iload_n d_106_14 rfl rfl ?_
  refine g_iload d_106_15 rfl ?_
  refine g_ishr d_106_17 ?_
  refine g_iconst (v := 1) d_106_18 (by decide) ?_
  refine g_iand d_106_19 ?_
  refine g_iconst (v := 1) d_106_20 (by decide) ?_
  exact g_icmp_ne (tgt := 34) d_106_21 (by decide) kt kf

theorem k_106_24 {X : GX} {d : Nat} {h : Hp} {v1 : Nat} {v2 : Int32} {v3 : Int32} {v4 : Int32} {d' : Nat} {Q' : Int32 → Hp → Prop} (hdd : d' < d) (hC : CI d' 21 [.ref 1, .ref v1, .int v4] h Q') (kk : ∀ x h', Q' x h' → G X d 106 32 [some (.ref 1), some (.ref v1), some (.int v2), none, some (.int v4)] [.int x, .int v3] h') : G X d 106 24 [some (.ref 1), some (.ref v1), some (.int v2), some (.int v3), some (.int v4)] [] h := by
  refine g_iload_n d_106_24 rfl rfl ?_
  refine g_aload_n d_106_25 rfl rfl ?_
  refine g_aload_n d_106_26 rfl rfl ?_
  refine g_iload d_106_27 rfl ?_
  exact g_callVI (mj := 21) 6 [.ref v1, .int v4] [.int v3] d_106_29 wd_232 mo_21 mc_21 mv_21 rfl rfl rfl (Nat.le_of_ble_eq_true rfl) rfl hdd hC (fun x h' q => g_mask [true, true, true, false, true] (kk x h' q))

theorem k_106_32 {X : GX} {d : Nat} {h : Hp} {v1 : Nat} {v2 : Int32} {v4 : Int32} {s0 : Int32} {s1 : Int32} (kk : G X d 106 5 [some (.ref 1), some (.ref v1), some (.int v2), some (.int (s1 + s0)), some (.int (v4 + 1))] [] h) : G X d 106 32 [some (.ref 1), some (.ref v1), some (.int v2), none, some (.int v4)] [.int s0, .int s1] h := by
  refine g_iadd d_106_32 ?_
  refine g_istore_n d_106_33 rfl (Nat.le_of_ble_eq_true rfl) rfl ?_
  refine g_iinc (w := 1) d_106_34 rfl (by decide) (Nat.le_of_ble_eq_true rfl) rfl ?_
  refine g_goto (tgt := 5) d_106_37 (by decide) ?_
  exact kk

theorem k_106_34 {X : GX} {d : Nat} {h : Hp} {v1 : Nat} {v2 : Int32} {v3 : Int32} {v4 : Int32} (kk : G X d 106 5 [some (.ref 1), some (.ref v1), some (.int v2), some (.int v3), some (.int (v4 + 1))] [] h) : G X d 106 34 [some (.ref 1), some (.ref v1), some (.int v2), some (.int v3), some (.int v4)] [] h := by
  refine g_iinc (w := 1) d_106_34 rfl (by decide) (Nat.le_of_ble_eq_true rfl) rfl ?_
  refine g_goto (tgt := 5) d_106_37 (by decide) ?_
  exact kk

theorem k_106_40 {X : GX} {d : Nat} {h : Hp} {v3 : Int32} (hq : RtX X (some (.int v3)) h) : G X d 106 40 [none, none, none, some (.int v3), none] [] h := by
  refine g_iload_n d_106_40 rfl rfl ?_
  exact g_reti d_106_41 rfl hq

/-! 135 PlayedTruth$Stage.goByLot(LPlayedTruth$Moment;)I -/
theorem k_135_0 {X : GX} {d : Nat} {h : Hp} {v1 : Nat} {d' : Nat} {Q' : Int32 → Hp → Prop} (o0 : sh v1 = (1, 3)) (n1 : ¬ (((wr h v1 5 (((h v1 5) * 1103515245) + 12345)) 1 7) + 1) = 0) (hdd : d' < d) (hC : CI d' 81 [.ref 1, .ref v1, .int (((((wr h v1 5 (((h v1 5) * 1103515245) + 12345)) v1 5).toUInt32 >>> ((16 : Int32).toUInt32 &&& Int32.toUInt32 31)).toInt32) - ((((wr h v1 5 (((h v1 5) * 1103515245) + 12345)) v1 5).toUInt32 >>> ((16 : Int32).toUInt32 &&& Int32.toUInt32 31)).toInt32) / (((wr h v1 5 (((h v1 5) * 1103515245) + 12345)) 1 7) + 1) * (((wr h v1 5 (((h v1 5) * 1103515245) + 12345)) 1 7) + 1))] (wr h v1 5 (((h v1 5) * 1103515245) + 12345)) Q') (kk : ∀ x h', Q' x h' → G X d 135 34 [none, none] [.int x] h') : G X d 135 0 [some (.ref 1), some (.ref v1)] [] h := by
  refine g_aload_n d_135_0 rfl rfl ?_
  refine g_aload_n d_135_1 rfl rfl ?_
  refine g_getf (ci := 3) (k := 5) d_135_2 wd_54 (Nat.le_of_ble_eq_true rfl) rfl o0 ?_
  refine g_ldc (v := 1103515245) d_135_5 wd_302 ?_
  refine g_imul d_135_7 ?_
  refine g_sipush (v := 12345) d_135_8 (by decide) ?_
  refine g_iadd d_135_11 ?_
  refine g_putf (ci := 3) (k := 5) d_135_12 wd_54 (Nat.le_of_ble_eq_true rfl) (Nat.le_of_ble_eq_true rfl) rfl rfl (Or.inl ⟨rfl, rfl⟩) o0 ?_
  refine g_aload_n d_135_15 rfl rfl ?_
  refine g_aload_n d_135_16 rfl rfl ?_
  refine g_aload_n d_135_17 rfl rfl ?_
  refine g_getf (ci := 3) (k := 5) d_135_18 wd_54 (Nat.le_of_ble_eq_true rfl) rfl o0 ?_
  refine g_bipush (v := 16) d_135_21 (by decide) ?_
  refine g_iushr d_135_23 ?_
  refine g_aload_n d_135_24 rfl rfl ?_
  refine g_getf (ci := 6) (k := 7) d_135_25 wd_27 (Nat.le_of_ble_eq_true rfl) rfl rfl ?_
  refine g_iconst (v := 1) d_135_28 (by decide) ?_
  refine g_iadd d_135_29 ?_
  refine g_irem d_135_30 n1 ?_
  exact g_callVI (mj := 81) 6 [.ref v1, .int (((((wr h v1 5 (((h v1 5) * 1103515245) + 12345)) v1 5).toUInt32 >>> ((16 : Int32).toUInt32 &&& Int32.toUInt32 31)).toInt32) - ((((wr h v1 5 (((h v1 5) * 1103515245) + 12345)) v1 5).toUInt32 >>> ((16 : Int32).toUInt32 &&& Int32.toUInt32 31)).toInt32) / (((wr h v1 5 (((h v1 5) * 1103515245) + 12345)) 1 7) + 1) * (((wr h v1 5 (((h v1 5) * 1103515245) + 12345)) 1 7) + 1))] [] d_135_31 wd_303 mo_81 mc_81 mv_81 rfl rfl rfl (Nat.le_of_ble_eq_true rfl) rfl hdd hC (fun x h' q => g_mask [false, false] (kk x h' q))

theorem k_135_34 {X : GX} {d : Nat} {h : Hp} {s0 : Int32} (hq : RtX X (some (.int s0)) h) : G X d 135 34 [none, none] [.int s0] h := by
  exact g_reti d_135_34 rfl hq

/-! 145 PlayedTruth$Stage.isAct(I)Z -/
theorem k_145_0 {X : GX} {d : Nat} {h : Hp} {v1 : Int32} (kt : v1 < 0 → G X d 145 16 [none, none] [] h) (kf : ¬ v1 < 0 → G X d 145 4 [some (.ref 1), some (.int v1)] [] h) : G X d 145 0 [some (.ref 1), some (.int v1)] [] h := by
  refine g_iload_n d_145_0 rfl rfl ?_
  exact g_if_lt (tgt := 16) d_145_1 (by decide) (fun q => g_mask [false, false] (kt q)) kf

theorem k_145_4 {X : GX} {d : Nat} {h : Hp} {v1 : Int32} (kt : (h 1 7) < v1 → G X d 145 16 [none, none] [] h) (kf : ¬ (h 1 7) < v1 → G X d 145 12 [none, none] [] h) : G X d 145 4 [some (.ref 1), some (.int v1)] [] h := by
  refine g_iload_n d_145_4 rfl rfl ?_
  refine g_aload_n d_145_5 rfl rfl ?_
  refine g_getf (ci := 6) (k := 7) d_145_6 wd_27 (Nat.le_of_ble_eq_true rfl) rfl rfl ?_
  exact g_icmp_gt (tgt := 16) d_145_9 (by decide) (fun q => g_mask [false, false] (kt q)) (fun q => g_mask [false, false] (kf q))

theorem k_145_12 {X : GX} {d : Nat} {h : Hp} (hq : RtX X (some (.int 1)) h) : G X d 145 12 [none, none] [] h := by
  refine g_iconst (v := 1) d_145_12 (by decide) ?_
  refine g_goto (tgt := 17) d_145_13 (by decide) ?_
  exact g_retz d_145_17 rfl z01_1 hq

theorem k_145_16 {X : GX} {d : Nat} {h : Hp} (hq : RtX X (some (.int 0)) h) : G X d 145 16 [none, none] [] h := by
  refine g_iconst (v := 0) d_145_16 (by decide) ?_
  exact g_retz d_145_17 rfl z01_0 hq

/-! 172 PlayedTruth$Stage.copyFrom(LPlayedTruth$Stage;)V -/
theorem k_172_0 {X : GX} {d : Nat} {h : Hp} {v0 : Nat} {v1 : Nat} {d' : Nat} {Q' : Hp → Prop} (o0 : sh v1 = (1, 6)) (o1 : sh v0 = (1, 6)) (dd2 : 0 < d) (o3 : sh (v1 + 1) = (0, 6)) (o4 : sh (v0 + 1) = (0, 6)) (o5 : sh (v1 + 2) = (0, 6)) (o6 : sh (v0 + 2) = (0, 6)) (o7 : sh (v1 + 3) = (0, 16)) (o8 : sh (v0 + 3) = (0, 16)) (o9 : sh (v1 + 4) = (0, 6)) (o10 : sh (v0 + 4) = (0, 6)) (o11 : sh (v1 + 5) = (0, 6)) (o12 : sh (v0 + 5) = (0, 6)) (o13 : sh (v0 + 6) = (1, 5)) (hdd : d' < d) (hC : CV d' 78 [.ref (v0 + 6), .ref (v1 + 6)] (wrA (wrA (wrA (wrA (wrA h (v0 + 1) (va_cpy (h (v1 + 1)) (h (v0 + 1)) (Int32.toNatClampNeg 0) (Int32.toNatClampNeg 0) (Int32.toNatClampNeg 6))) (v0 + 2) (va_cpy ((wrA h (v0 + 1) (va_cpy (h (v1 + 1)) (h (v0 + 1)) (Int32.toNatClampNeg 0) (Int32.toNatClampNeg 0) (Int32.toNatClampNeg 6))) (v1 + 2)) ((wrA h (v0 + 1) (va_cpy (h (v1 + 1)) (h (v0 + 1)) (Int32.toNatClampNeg 0) (Int32.toNatClampNeg 0) (Int32.toNatClampNeg 6))) (v0 + 2)) (Int32.toNatClampNeg 0) (Int32.toNatClampNeg 0) (Int32.toNatClampNeg 6))) (v0 + 3) (va_cpy ((wrA (wrA h (v0 + 1) (va_cpy (h (v1 + 1)) (h (v0 + 1)) (Int32.toNatClampNeg 0) (Int32.toNatClampNeg 0) (Int32.toNatClampNeg 6))) (v0 + 2) (va_cpy ((wrA h (v0 + 1) (va_cpy (h (v1 + 1)) (h (v0 + 1)) (Int32.toNatClampNeg 0) (Int32.toNatClampNeg 0) (Int32.toNatClampNeg 6))) (v1 + 2)) ((wrA h (v0 + 1) (va_cpy (h (v1 + 1)) (h (v0 + 1)) (Int32.toNatClampNeg 0) (Int32.toNatClampNeg 0) (Int32.toNatClampNeg 6))) (v0 + 2)) (Int32.toNatClampNeg 0) (Int32.toNatClampNeg 0) (Int32.toNatClampNeg 6))) (v1 + 3)) ((wrA (wrA h (v0 + 1) (va_cpy (h (v1 + 1)) (h (v0 + 1)) (Int32.toNatClampNeg 0) (Int32.toNatClampNeg 0) (Int32.toNatClampNeg 6))) (v0 + 2) (va_cpy ((wrA h (v0 + 1) (va_cpy (h (v1 + 1)) (h (v0 + 1)) (Int32.toNatClampNeg 0) (Int32.toNatClampNeg 0) (Int32.toNatClampNeg 6))) (v1 + 2)) ((wrA h (v0 + 1) (va_cpy (h (v1 + 1)) (h (v0 + 1)) (Int32.toNatClampNeg 0) (Int32.toNatClampNeg 0) (Int32.toNatClampNeg 6))) (v0 + 2)) (Int32.toNatClampNeg 0) (Int32.toNatClampNeg 0) (Int32.toNatClampNeg 6))) (v0 + 3)) (Int32.toNatClampNeg 0) (Int32.toNatClampNeg 0) (Int32.toNatClampNeg 16))) (v0 + 4) (va_cpy ((wrA (wrA (wrA h (v0 + 1) (va_cpy (h (v1 + 1)) (h (v0 + 1)) (Int32.toNatClampNeg 0) (Int32.toNatClampNeg 0) (Int32.toNatClampNeg 6))) (v0 + 2) (va_cpy ((wrA h (v0 + 1) (va_cpy (h (v1 + 1)) (h (v0 + 1)) (Int32.toNatClampNeg 0) (Int32.toNatClampNeg 0) (Int32.toNatClampNeg 6))) (v1 + 2)) ((wrA h (v0 + 1) (va_cpy (h (v1 + 1)) (h (v0 + 1)) (Int32.toNatClampNeg 0) (Int32.toNatClampNeg 0) (Int32.toNatClampNeg 6))) (v0 + 2)) (Int32.toNatClampNeg 0) (Int32.toNatClampNeg 0) (Int32.toNatClampNeg 6))) (v0 + 3) (va_cpy ((wrA (wrA h (v0 + 1) (va_cpy (h (v1 + 1)) (h (v0 + 1)) (Int32.toNatClampNeg 0) (Int32.toNatClampNeg 0) (Int32.toNatClampNeg 6))) (v0 + 2) (va_cpy ((wrA h (v0 + 1) (va_cpy (h (v1 + 1)) (h (v0 + 1)) (Int32.toNatClampNeg 0) (Int32.toNatClampNeg 0) (Int32.toNatClampNeg 6))) (v1 + 2)) ((wrA h (v0 + 1) (va_cpy (h (v1 + 1)) (h (v0 + 1)) (Int32.toNatClampNeg 0) (Int32.toNatClampNeg 0) (Int32.toNatClampNeg 6))) (v0 + 2)) (Int32.toNatClampNeg 0) (Int32.toNatClampNeg 0) (Int32.toNatClampNeg 6))) (v1 + 3)) ((wrA (wrA h (v0 + 1) (va_cpy (h (v1 + 1)) (h (v0 + 1)) (Int32.toNatClampNeg 0) (Int32.toNatClampNeg 0) (Int32.toNatClampNeg 6))) (v0 + 2) (va_cpy ((wrA h (v0 + 1) (va_cpy (h (v1 + 1)) (h (v0 + 1)) (Int32.toNatClampNeg 0) (Int32.toNatClampNeg 0) (Int32.toNatClampNeg 6))) (v1 + 2)) ((wrA h (v0 + 1) (va_cpy (h (v1 + 1)) (h (v0 + 1)) (Int32.toNatClampNeg 0) (Int32.toNatClampNeg 0) (Int32.toNatClampNeg 6))) (v0 + 2)) (Int32.toNatClampNeg 0) (Int32.toNatClampNeg 0) (Int32.toNatClampNeg 6))) (v0 + 3)) (Int32.toNatClampNeg 0) (Int32.toNatClampNeg 0) (Int32.toNatClampNeg 16))) (v1 + 4)) ((wrA (wrA (wrA h (v0 + 1) (va_cpy (h (v1 + 1)) (h (v0 + 1)) (Int32.toNatClampNeg 0) (Int32.toNatClampNeg 0) (Int32.toNatClampNeg 6))) (v0 + 2) (va_cpy ((wrA h (v0 + 1) (va_cpy (h (v1 + 1)) (h (v0 + 1)) (Int32.toNatClampNeg 0) (Int32.toNatClampNeg 0) (Int32.toNatClampNeg 6))) (v1 + 2)) ((wrA h (v0 + 1) (va_cpy (h (v1 + 1)) (h (v0 + 1)) (Int32.toNatClampNeg 0) (Int32.toNatClampNeg 0) (Int32.toNatClampNeg 6))) (v0 + 2)) (Int32.toNatClampNeg 0) (Int32.toNatClampNeg 0) (Int32.toNatClampNeg 6))) (v0 + 3) (va_cpy ((wrA (wrA h (v0 + 1) (va_cpy (h (v1 + 1)) (h (v0 + 1)) (Int32.toNatClampNeg 0) (Int32.toNatClampNeg 0) (Int32.toNatClampNeg 6))) (v0 + 2) (va_cpy ((wrA h (v0 + 1) (va_cpy (h (v1 + 1)) (h (v0 + 1)) (Int32.toNatClampNeg 0) (Int32.toNatClampNeg 0) (Int32.toNatClampNeg 6))) (v1 + 2)) ((wrA h (v0 + 1) (va_cpy (h (v1 + 1)) (h (v0 + 1)) (Int32.toNatClampNeg 0) (Int32.toNatClampNeg 0) (Int32.toNatClampNeg 6))) (v0 + 2)) (Int32.toNatClampNeg 0) (Int32.toNatClampNeg 0) (Int32.toNatClampNeg 6))) (v1 + 3)) ((wrA (wrA h (v0 + 1) (va_cpy (h (v1 + 1)) (h (v0 + 1)) (Int32.toNatClampNeg 0) (Int32.toNatClampNeg 0) (Int32.toNatClampNeg 6))) (v0 + 2) (va_cpy ((wrA h (v0 + 1) (va_cpy (h (v1 + 1)) (h (v0 + 1)) (Int32.toNatClampNeg 0) (Int32.toNatClampNeg 0) (Int32.toNatClampNeg 6))) (v1 + 2)) ((wrA h (v0 + 1) (va_cpy (h (v1 + 1)) (h (v0 + 1)) (Int32.toNatClampNeg 0) (Int32.toNatClampNeg 0) (Int32.toNatClampNeg 6))) (v0 + 2)) (Int32.toNatClampNeg 0) (Int32.toNatClampNeg 0) (Int32.toNatClampNeg 6))) (v0 + 3)) (Int32.toNatClampNeg 0) (Int32.toNatClampNeg 0) (Int32.toNatClampNeg 16))) (v0 + 4)) (Int32.toNatClampNeg 0) (Int32.toNatClampNeg 0) (Int32.toNatClampNeg 6))) (v0 + 5) (va_cpy ((wrA (wrA (wrA (wrA h (v0 + 1) (va_cpy (h (v1 + 1)) (h (v0 + 1)) (Int32.toNatClampNeg 0) (Int32.toNatClampNeg 0) (Int32.toNatClampNeg 6))) (v0 + 2) (va_cpy ((wrA h (v0 + 1) (va_cpy (h (v1 + 1)) (h (v0 + 1)) (Int32.toNatClampNeg 0) (Int32.toNatClampNeg 0) (Int32.toNatClampNeg 6))) (v1 + 2)) ((wrA h (v0 + 1) (va_cpy (h (v1 + 1)) (h (v0 + 1)) (Int32.toNatClampNeg 0) (Int32.toNatClampNeg 0) (Int32.toNatClampNeg 6))) (v0 + 2)) (Int32.toNatClampNeg 0) (Int32.toNatClampNeg 0) (Int32.toNatClampNeg 6))) (v0 + 3) (va_cpy ((wrA (wrA h (v0 + 1) (va_cpy (h (v1 + 1)) (h (v0 + 1)) (Int32.toNatClampNeg 0) (Int32.toNatClampNeg 0) (Int32.toNatClampNeg 6))) (v0 + 2) (va_cpy ((wrA h (v0 + 1) (va_cpy (h (v1 + 1)) (h (v0 + 1)) (Int32.toNatClampNeg 0) (Int32.toNatClampNeg 0) (Int32.toNatClampNeg 6))) (v1 + 2)) ((wrA h (v0 + 1) (va_cpy (h (v1 + 1)) (h (v0 + 1)) (Int32.toNatClampNeg 0) (Int32.toNatClampNeg 0) (Int32.toNatClampNeg 6))) (v0 + 2)) (Int32.toNatClampNeg 0) (Int32.toNatClampNeg 0) (Int32.toNatClampNeg 6))) (v1 + 3)) ((wrA (wrA h (v0 + 1) (va_cpy (h (v1 + 1)) (h (v0 + 1)) (Int32.toNatClampNeg 0) (Int32.toNatClampNeg 0) (Int32.toNatClampNeg 6))) (v0 + 2) (va_cpy ((wrA h (v0 + 1) (va_cpy (h (v1 + 1)) (h (v0 + 1)) (Int32.toNatClampNeg 0) (Int32.toNatClampNeg 0) (Int32.toNatClampNeg 6))) (v1 + 2)) ((wrA h (v0 + 1) (va_cpy (h (v1 + 1)) (h (v0 + 1)) (Int32.toNatClampNeg 0) (Int32.toNatClampNeg 0) (Int32.toNatClampNeg 6))) (v0 + 2)) (Int32.toNatClampNeg 0) (Int32.toNatClampNeg 0) (Int32.toNatClampNeg 6))) (v0 + 3)) (Int32.toNatClampNeg 0) (Int32.toNatClampNeg 0) (Int32.toNatClampNeg 16))) (v0 + 4) (va_cpy ((wrA (wrA (wrA h (v0 + 1) (va_cpy (h (v1 + 1)) (h (v0 + 1)) (Int32.toNatClampNeg 0) (Int32.toNatClampNeg 0) (Int32.toNatClampNeg 6))) (v0 + 2) (va_cpy ((wrA h (v0 + 1) (va_cpy (h (v1 + 1)) (h (v0 + 1)) (Int32.toNatClampNeg 0) (Int32.toNatClampNeg 0) (Int32.toNatClampNeg 6))) (v1 + 2)) ((wrA h (v0 + 1) (va_cpy (h (v1 + 1)) (h (v0 + 1)) (Int32.toNatClampNeg 0) (Int32.toNatClampNeg 0) (Int32.toNatClampNeg 6))) (v0 + 2)) (Int32.toNatClampNeg 0) (Int32.toNatClampNeg 0) (Int32.toNatClampNeg 6))) (v0 + 3) (va_cpy ((wrA (wrA h (v0 + 1) (va_cpy (h (v1 + 1)) (h (v0 + 1)) (Int32.toNatClampNeg 0) (Int32.toNatClampNeg 0) (Int32.toNatClampNeg 6))) (v0 + 2) (va_cpy ((wrA h (v0 + 1) (va_cpy (h (v1 + 1)) (h (v0 + 1)) (Int32.toNatClampNeg 0) (Int32.toNatClampNeg 0) (Int32.toNatClampNeg 6))) (v1 + 2)) ((wrA h (v0 + 1) (va_cpy (h (v1 + 1)) (h (v0 + 1)) (Int32.toNatClampNeg 0) (Int32.toNatClampNeg 0) (Int32.toNatClampNeg 6))) (v0 + 2)) (Int32.toNatClampNeg 0) (Int32.toNatClampNeg 0) (Int32.toNatClampNeg 6))) (v1 + 3)) ((wrA (wrA h (v0 + 1) (va_cpy (h (v1 + 1)) (h (v0 + 1)) (Int32.toNatClampNeg 0) (Int32.toNatClampNeg 0) (Int32.toNatClampNeg 6))) (v0 + 2) (va_cpy ((wrA h (v0 + 1) (va_cpy (h (v1 + 1)) (h (v0 + 1)) (Int32.toNatClampNeg 0) (Int32.toNatClampNeg 0) (Int32.toNatClampNeg 6))) (v1 + 2)) ((wrA h (v0 + 1) (va_cpy (h (v1 + 1)) (h (v0 + 1)) (Int32.toNatClampNeg 0) (Int32.toNatClampNeg 0) (Int32.toNatClampNeg 6))) (v0 + 2)) (Int32.toNatClampNeg 0) (Int32.toNatClampNeg 0) (Int32.toNatClampNeg 6))) (v0 + 3)) (Int32.toNatClampNeg 0) (Int32.toNatClampNeg 0) (Int32.toNatClampNeg 16))) (v1 + 4)) ((wrA (wrA (wrA h (v0 + 1) (va_cpy (h (v1 + 1)) (h (v0 + 1)) (Int32.toNatClampNeg 0) (Int32.toNatClampNeg 0) (Int32.toNatClampNeg 6))) (v0 + 2) (va_cpy ((wrA h (v0 + 1) (va_cpy (h (v1 + 1)) (h (v0 + 1)) (Int32.toNatClampNeg 0) (Int32.toNatClampNeg 0) (Int32.toNatClampNeg 6))) (v1 + 2)) ((wrA h (v0 + 1) (va_cpy (h (v1 + 1)) (h (v0 + 1)) (Int32.toNatClampNeg 0) (Int32.toNatClampNeg 0) (Int32.toNatClampNeg 6))) (v0 + 2)) (Int32.toNatClampNeg 0) (Int32.toNatClampNeg 0) (Int32.toNatClampNeg 6))) (v0 + 3) (va_cpy ((wrA (wrA h (v0 + 1) (va_cpy (h (v1 + 1)) (h (v0 + 1)) (Int32.toNatClampNeg 0) (Int32.toNatClampNeg 0) (Int32.toNatClampNeg 6))) (v0 + 2) (va_cpy ((wrA h (v0 + 1) (va_cpy (h (v1 + 1)) (h (v0 + 1)) (Int32.toNatClampNeg 0) (Int32.toNatClampNeg 0) (Int32.toNatClampNeg 6))) (v1 + 2)) ((wrA h (v0 + 1) (va_cpy (h (v1 + 1)) (h (v0 + 1)) (Int32.toNatClampNeg 0) (Int32.toNatClampNeg 0) (Int32.toNatClampNeg 6))) (v0 + 2)) (Int32.toNatClampNeg 0) (Int32.toNatClampNeg 0) (Int32.toNatClampNeg 6))) (v1 + 3)) ((wrA (wrA h (v0 + 1) (va_cpy (h (v1 + 1)) (h (v0 + 1)) (Int32.toNatClampNeg 0) (Int32.toNatClampNeg 0) (Int32.toNatClampNeg 6))) (v0 + 2) (va_cpy ((wrA h (v0 + 1) (va_cpy (h (v1 + 1)) (h (v0 + 1)) (Int32.toNatClampNeg 0) (Int32.toNatClampNeg 0) (Int32.toNatClampNeg 6))) (v1 + 2)) ((wrA h (v0 + 1) (va_cpy (h (v1 + 1)) (h (v0 + 1)) (Int32.toNatClampNeg 0) (Int32.toNatClampNeg 0) (Int32.toNatClampNeg 6))) (v0 + 2)) (Int32.toNatClampNeg 0) (Int32.toNatClampNeg 0) (Int32.toNatClampNeg 6))) (v0 + 3)) (Int32.toNatClampNeg 0) (Int32.toNatClampNeg 0) (Int32.toNatClampNeg 16))) (v0 + 4)) (Int32.toNatClampNeg 0) (Int32.toNatClampNeg 0) (Int32.toNatClampNeg 6))) (v1 + 5)) ((wrA (wrA (wrA (wrA h (v0 + 1) (va_cpy (h (v1 + 1)) (h (v0 + 1)) (Int32.toNatClampNeg 0) (Int32.toNatClampNeg 0) (Int32.toNatClampNeg 6))) (v0 + 2) (va_cpy ((wrA h (v0 + 1) (va_cpy (h (v1 + 1)) (h (v0 + 1)) (Int32.toNatClampNeg 0) (Int32.toNatClampNeg 0) (Int32.toNatClampNeg 6))) (v1 + 2)) ((wrA h (v0 + 1) (va_cpy (h (v1 + 1)) (h (v0 + 1)) (Int32.toNatClampNeg 0) (Int32.toNatClampNeg 0) (Int32.toNatClampNeg 6))) (v0 + 2)) (Int32.toNatClampNeg 0) (Int32.toNatClampNeg 0) (Int32.toNatClampNeg 6))) (v0 + 3) (va_cpy ((wrA (wrA h (v0 + 1) (va_cpy (h (v1 + 1)) (h (v0 + 1)) (Int32.toNatClampNeg 0) (Int32.toNatClampNeg 0) (Int32.toNatClampNeg 6))) (v0 + 2) (va_cpy ((wrA h (v0 + 1) (va_cpy (h (v1 + 1)) (h (v0 + 1)) (Int32.toNatClampNeg 0) (Int32.toNatClampNeg 0) (Int32.toNatClampNeg 6))) (v1 + 2)) ((wrA h (v0 + 1) (va_cpy (h (v1 + 1)) (h (v0 + 1)) (Int32.toNatClampNeg 0) (Int32.toNatClampNeg 0) (Int32.toNatClampNeg 6))) (v0 + 2)) (Int32.toNatClampNeg 0) (Int32.toNatClampNeg 0) (Int32.toNatClampNeg 6))) (v1 + 3)) ((wrA (wrA h (v0 + 1) (va_cpy (h (v1 + 1)) (h (v0 + 1)) (Int32.toNatClampNeg 0) (Int32.toNatClampNeg 0) (Int32.toNatClampNeg 6))) (v0 + 2) (va_cpy ((wrA h (v0 + 1) (va_cpy (h (v1 + 1)) (h (v0 + 1)) (Int32.toNatClampNeg 0) (Int32.toNatClampNeg 0) (Int32.toNatClampNeg 6))) (v1 + 2)) ((wrA h (v0 + 1) (va_cpy (h (v1 + 1)) (h (v0 + 1)) (Int32.toNatClampNeg 0) (Int32.toNatClampNeg 0) (Int32.toNatClampNeg 6))) (v0 + 2)) (Int32.toNatClampNeg 0) (Int32.toNatClampNeg 0) (Int32.toNatClampNeg 6))) (v0 + 3)) (Int32.toNatClampNeg 0) (Int32.toNatClampNeg 0) (Int32.toNatClampNeg 16))) (v0 + 4) (va_cpy ((wrA (wrA (wrA h (v0 + 1) (va_cpy (h (v1 + 1)) (h (v0 + 1)) (Int32.toNatClampNeg 0) (Int32.toNatClampNeg 0) (Int32.toNatClampNeg 6))) (v0 + 2) (va_cpy ((wrA h (v0 + 1) (va_cpy (h (v1 + 1)) (h (v0 + 1)) (Int32.toNatClampNeg 0) (Int32.toNatClampNeg 0) (Int32.toNatClampNeg 6))) (v1 + 2)) ((wrA h (v0 + 1) (va_cpy (h (v1 + 1)) (h (v0 + 1)) (Int32.toNatClampNeg 0) (Int32.toNatClampNeg 0) (Int32.toNatClampNeg 6))) (v0 + 2)) (Int32.toNatClampNeg 0) (Int32.toNatClampNeg 0) (Int32.toNatClampNeg 6))) (v0 + 3) (va_cpy ((wrA (wrA h (v0 + 1) (va_cpy (h (v1 + 1)) (h (v0 + 1)) (Int32.toNatClampNeg 0) (Int32.toNatClampNeg 0) (Int32.toNatClampNeg 6))) (v0 + 2) (va_cpy ((wrA h (v0 + 1) (va_cpy (h (v1 + 1)) (h (v0 + 1)) (Int32.toNatClampNeg 0) (Int32.toNatClampNeg 0) (Int32.toNatClampNeg 6))) (v1 + 2)) ((wrA h (v0 + 1) (va_cpy (h (v1 + 1)) (h (v0 + 1)) (Int32.toNatClampNeg 0) (Int32.toNatClampNeg 0) (Int32.toNatClampNeg 6))) (v0 + 2)) (Int32.toNatClampNeg 0) (Int32.toNatClampNeg 0) (Int32.toNatClampNeg 6))) (v1 + 3)) ((wrA (wrA h (v0 + 1) (va_cpy (h (v1 + 1)) (h (v0 + 1)) (Int32.toNatClampNeg 0) (Int32.toNatClampNeg 0) (Int32.toNatClampNeg 6))) (v0 + 2) (va_cpy ((wrA h (v0 + 1) (va_cpy (h (v1 + 1)) (h (v0 + 1)) (Int32.toNatClampNeg 0) (Int32.toNatClampNeg 0) (Int32.toNatClampNeg 6))) (v1 + 2)) ((wrA h (v0 + 1) (va_cpy (h (v1 + 1)) (h (v0 + 1)) (Int32.toNatClampNeg 0) (Int32.toNatClampNeg 0) (Int32.toNatClampNeg 6))) (v0 + 2)) (Int32.toNatClampNeg 0) (Int32.toNatClampNeg 0) (Int32.toNatClampNeg 6))) (v0 + 3)) (Int32.toNatClampNeg 0) (Int32.toNatClampNeg 0) (Int32.toNatClampNeg 16))) (v1 + 4)) ((wrA (wrA (wrA h (v0 + 1) (va_cpy (h (v1 + 1)) (h (v0 + 1)) (Int32.toNatClampNeg 0) (Int32.toNatClampNeg 0) (Int32.toNatClampNeg 6))) (v0 + 2) (va_cpy ((wrA h (v0 + 1) (va_cpy (h (v1 + 1)) (h (v0 + 1)) (Int32.toNatClampNeg 0) (Int32.toNatClampNeg 0) (Int32.toNatClampNeg 6))) (v1 + 2)) ((wrA h (v0 + 1) (va_cpy (h (v1 + 1)) (h (v0 + 1)) (Int32.toNatClampNeg 0) (Int32.toNatClampNeg 0) (Int32.toNatClampNeg 6))) (v0 + 2)) (Int32.toNatClampNeg 0) (Int32.toNatClampNeg 0) (Int32.toNatClampNeg 6))) (v0 + 3) (va_cpy ((wrA (wrA h (v0 + 1) (va_cpy (h (v1 + 1)) (h (v0 + 1)) (Int32.toNatClampNeg 0) (Int32.toNatClampNeg 0) (Int32.toNatClampNeg 6))) (v0 + 2) (va_cpy ((wrA h (v0 + 1) (va_cpy (h (v1 + 1)) (h (v0 + 1)) (Int32.toNatClampNeg 0) (Int32.toNatClampNeg 0) (Int32.toNatClampNeg 6))) (v1 + 2)) ((wrA h (v0 + 1) (va_cpy (h (v1 + 1)) (h (v0 + 1)) (Int32.toNatClampNeg 0) (Int32.toNatClampNeg 0) (Int32.toNatClampNeg 6))) (v0 + 2)) (Int32.toNatClampNeg 0) (Int32.toNatClampNeg 0) (Int32.toNatClampNeg 6))) (v1 + 3)) ((wrA (wrA h (v0 + 1) (va_cpy (h (v1 + 1)) (h (v0 + 1)) (Int32.toNatClampNeg 0) (Int32.toNatClampNeg 0) (Int32.toNatClampNeg 6))) (v0 + 2) (va_cpy ((wrA h (v0 + 1) (va_cpy (h (v1 + 1)) (h (v0 + 1)) (Int32.toNatClampNeg 0) (Int32.toNatClampNeg 0) (Int32.toNatClampNeg 6))) (v1 + 2)) ((wrA h (v0 + 1) (va_cpy (h (v1 + 1)) (h (v0 + 1)) (Int32.toNatClampNeg 0) (Int32.toNatClampNeg 0) (Int32.toNatClampNeg 6))) (v0 + 2)) (Int32.toNatClampNeg 0) (Int32.toNatClampNeg 0) (Int32.toNatClampNeg 6))) (v0 + 3)) (Int32.toNatClampNeg 0) (Int32.toNatClampNeg 0) (Int32.toNatClampNeg 16))) (v0 + 4)) (Int32.toNatClampNeg 0) (Int32.toNatClampNeg 0) (Int32.toNatClampNeg 6))) (v0 + 5)) (Int32.toNatClampNeg 0) (Int32.toNatClampNeg 0) (Int32.toNatClampNeg 6))) Q') (kk : ∀ h', Q' h' → G X d 172 86 [some (.ref v0), some (.ref v1)] [] h') : G X d 172 0 [some (.ref v0), some (.ref v1)] [] h := by
  refine g_aload_n d_172_0 rfl rfl ?_
  refine g_getf (ci := 6) (k := 0) d_172_1 wd_14 (Nat.le_of_ble_eq_true rfl) rfl o0 ?_
  refine g_iconst (v := 0) d_172_4 (by decide) ?_
  refine g_aload_n d_172_5 rfl rfl ?_
  refine g_getf (ci := 6) (k := 0) d_172_6 wd_14 (Nat.le_of_ble_eq_true rfl) rfl o1 ?_
  refine g_iconst (v := 0) d_172_9 (by decide) ?_
  refine g_bipush (v := 6) d_172_10 (by decide) ?_
  refine g_copy (n0 := 6) (n1 := 6) d_172_12 wd_347 ac_nat ac_st ac_in (Nat.le_of_ble_eq_true rfl) dd2 o3 o4 (by decide) (by decide) (by decide) (by decide) (by decide) ?_
  refine g_aload_n d_172_15 rfl rfl ?_
  refine g_getf (ci := 6) (k := 1) d_172_16 wd_16 (Nat.le_of_ble_eq_true rfl) rfl o0 ?_
  refine g_iconst (v := 0) d_172_19 (by decide) ?_
  refine g_aload_n d_172_20 rfl rfl ?_
  refine g_getf (ci := 6) (k := 1) d_172_21 wd_16 (Nat.le_of_ble_eq_true rfl) rfl o1 ?_
  refine g_iconst (v := 0) d_172_24 (by decide) ?_
  refine g_bipush (v := 6) d_172_25 (by decide) ?_
  refine g_copy (n0 := 6) (n1 := 6) d_172_27 wd_347 ac_nat ac_st ac_in (Nat.le_of_ble_eq_true rfl) dd2 o5 o6 (by decide) (by decide) (by decide) (by decide) (by decide) ?_
  refine g_aload_n d_172_30 rfl rfl ?_
  refine g_getf (ci := 6) (k := 2) d_172_31 wd_18 (Nat.le_of_ble_eq_true rfl) rfl o0 ?_
  refine g_iconst (v := 0) d_172_34 (by decide) ?_
  refine g_aload_n d_172_35 rfl rfl ?_
  refine g_getf (ci := 6) (k := 2) d_172_36 wd_18 (Nat.le_of_ble_eq_true rfl) rfl o1 ?_
  refine g_iconst (v := 0) d_172_39 (by decide) ?_
  refine g_bipush (v := 16) d_172_40 (by decide) ?_
  refine g_copy (n0 := 16) (n1 := 16) d_172_42 wd_347 ac_nat ac_st ac_in (Nat.le_of_ble_eq_true rfl) dd2 o7 o8 (by decide) (by decide) (by decide) (by decide) (by decide) ?_
  refine g_aload_n d_172_45 rfl rfl ?_
  refine g_getf (ci := 6) (k := 3) d_172_46 wd_20 (Nat.le_of_ble_eq_true rfl) rfl o0 ?_
  refine g_iconst (v := 0) d_172_49 (by decide) ?_
  refine g_aload_n d_172_50 rfl rfl ?_
  refine g_getf (ci := 6) (k := 3) d_172_51 wd_20 (Nat.le_of_ble_eq_true rfl) rfl o1 ?_
  refine g_iconst (v := 0) d_172_54 (by decide) ?_
  refine g_bipush (v := 6) d_172_55 (by decide) ?_
  refine g_copy (n0 := 6) (n1 := 6) d_172_57 wd_347 ac_nat ac_st ac_in (Nat.le_of_ble_eq_true rfl) dd2 o9 o10 (by decide) (by decide) (by decide) (by decide) (by decide) ?_
  refine g_aload_n d_172_60 rfl rfl ?_
  refine g_getf (ci := 6) (k := 4) d_172_61 wd_22 (Nat.le_of_ble_eq_true rfl) rfl o0 ?_
  refine g_iconst (v := 0) d_172_64 (by decide) ?_
  refine g_aload_n d_172_65 rfl rfl ?_
  refine g_getf (ci := 6) (k := 4) d_172_66 wd_22 (Nat.le_of_ble_eq_true rfl) rfl o1 ?_
  refine g_iconst (v := 0) d_172_69 (by decide) ?_
  refine g_bipush (v := 6) d_172_70 (by decide) ?_
  refine g_copy (n0 := 6) (n1 := 6) d_172_72 wd_347 ac_nat ac_st ac_in (Nat.le_of_ble_eq_true rfl) dd2 o11 o12 (by decide) (by decide) (by decide) (by decide) (by decide) ?_
  refine g_aload_n d_172_75 rfl rfl ?_
  refine g_getf (ci := 6) (k := 5) d_172_76 wd_24 (Nat.le_of_ble_eq_true rfl) rfl o1 ?_
  refine g_aload_n d_172_79 rfl rfl ?_
  refine g_getf (ci := 6) (k := 5) d_172_80 wd_24 (Nat.le_of_ble_eq_true rfl) rfl o0 ?_
  exact g_callVV (mj := 78) 5 [.ref (v1 + 6)] [] d_172_83 wd_348 mo_78 mc_78 mv_78 rfl rfl rfl (Nat.le_of_ble_eq_true rfl) o13 hdd hC kk

theorem k_172_86 {X : GX} {d : Nat} {h : Hp} {v0 : Nat} {v1 : Nat} (o0 : sh v1 = (1, 6)) (o1 : sh v0 = (1, 6)) (hq : RtX X none (wr (wr h v0 7 (h v1 7)) v0 8 ((wr h v0 7 (h v1 7)) v1 8))) : G X d 172 86 [some (.ref v0), some (.ref v1)] [] h := by
  refine g_aload_n d_172_86 rfl rfl ?_
  refine g_aload_n d_172_87 rfl rfl ?_
  refine g_getf (ci := 6) (k := 7) d_172_88 wd_27 (Nat.le_of_ble_eq_true rfl) rfl o0 ?_
  refine g_putf (ci := 6) (k := 7) d_172_91 wd_27 (Nat.le_of_ble_eq_true rfl) (Nat.le_of_ble_eq_true rfl) rfl rfl (Or.inl ⟨rfl, rfl⟩) o1 ?_
  refine g_aload_n d_172_94 rfl rfl ?_
  refine g_aload_n d_172_95 rfl rfl ?_
  refine g_getf (ci := 6) (k := 8) d_172_96 wd_30 (Nat.le_of_ble_eq_true rfl) rfl o0 ?_
  refine g_putf (ci := 6) (k := 8) d_172_99 wd_30 (Nat.le_of_ble_eq_true rfl) (Nat.le_of_ble_eq_true rfl) rfl rfl (Or.inl ⟨rfl, rfl⟩) o1 ?_
  exact g_retv d_172_102 rfl hq

