/-! 18 PlayedTruth$Kind.learns(IIII)I -/
theorem k_18_0 {X : GX} {d : Nat} {h : Hp} {v0 : Int32} {v1 : Int32} {v2 : Int32} {v3 : Int32} (kt : v2 ≤ 40 → G X d 18 19 [some (.int v0), some (.int v1), some (.int v2), some (.int v3), some (.int (8 * v1)), none, none] [] h) (kf : ¬ v2 ≤ 40 → G X d 18 12 [some (.int v0), some (.int v1), some (.int v2), some (.int v3), some (.int (8 * v1)), none, none] [] h) : G X d 18 0 [some (.int v0), some (.int v1), some (.int v2), some (.int v3), none, none, none] [] h := by
  refine g_bipush (v := 8) d_18_0 (by decide) ?_
  refine g_iload_n d_18_2 rfl rfl ?_
  refine g_imul d_18_3 ?_
  refine g_istore d_18_4 (Nat.le_of_ble_eq_true rfl) rfl ?_
  refine g_iload_n d_18_6 rfl rfl ?_
  refine g_bipush (v := 40) d_18_7 (by decide) ?_
  exact g_icmp_le (tgt := 19) d_18_9 (by decide) kt kf

theorem k_18_12 {X : GX} {d : Nat} {h : Hp} {v0 : Int32} {v1 : Int32} {v2 : Int32} {v3 : Int32} {v4 : Int32} (k0 : v0 = 1 → G X d 18 64 [none, none, some (.int v2), none, some (.int v4), none, none] [] h) (k1 : v0 = 2 → G X d 18 72 [none, none, none, none, none, some (.int (v4 / 2)), none] [] h) (k2 : v0 = 3 → G X d 18 75 [none, none, none, none, none, some (.int (v4 / 2)), none] [] h) (k3 : v0 = 4 → G X d 18 84 [none, none, none, none, none, none, some (.int ((5 * v1) + 4))] [] h) (k4 : v0 = 5 → G X d 18 87 [none, none, none, some (.int v3), none, none, some (.int ((5 * v1) + 4))] [] h) (kd : ¬ v0 = 1 → ¬ v0 = 2 → ¬ v0 = 3 → ¬ v0 = 4 → ¬ v0 = 5 → G X d 18 101 [none, none, none, none, some (.int v4), none, none] [] h) : G X d 18 12 [some (.int v0), some (.int v1), some (.int v2), some (.int v3), some (.int v4), none, none] [] h := by
  refine g_iload d_18_12 rfl ?_
  refine g_iconst (v := 2) d_18_14 (by decide) ?_
  refine g_idiv d_18_15 (by decide) ?_
  refine g_goto (tgt := 21) d_18_16 (by decide) ?_
  refine g_istore d_18_21 (Nat.le_of_ble_eq_true rfl) rfl ?_
  refine g_iconst (v := 5) d_18_23 (by decide) ?_
  refine g_iload_n d_18_24 rfl rfl ?_
  refine g_imul d_18_25 ?_
  refine g_iconst (v := 4) d_18_26 (by decide) ?_
  refine g_iadd d_18_27 ?_
  refine g_istore d_18_28 (Nat.le_of_ble_eq_true rfl) rfl ?_
  refine g_iload_n d_18_30 rfl rfl ?_
  exact g_table (tls := [(1, 64), (2, 72), (3, 75), (4, 84), (5, 87)]) (df := 101) d_18_31 (by decide +kernel) ⟨fun q => g_mask [false, false, true, false, true, false, false] (k0 q), fun n0 => ⟨fun q => g_mask [false, false, false, false, false, true, false] (k1 q), fun n1 => ⟨fun q => g_mask [false, false, false, false, false, true, false] (k2 q), fun n2 => ⟨fun q => g_mask [false, false, false, false, false, false, true] (k3 q), fun n3 => ⟨fun q => g_mask [false, false, false, true, false, false, true] (k4 q), fun n4 => (g_mask [false, false, false, false, true, false, false] (kd n0 n1 n2 n3 n4))⟩⟩⟩⟩⟩

theorem k_18_19 {X : GX} {d : Nat} {h : Hp} {v0 : Int32} {v1 : Int32} {v2 : Int32} {v3 : Int32} {v4 : Int32} (k0 : v0 = 1 → G X d 18 64 [none, none, some (.int v2), none, some (.int v4), none, none] [] h) (k1 : v0 = 2 → G X d 18 72 [none, none, none, none, none, some (.int v4), none] [] h) (k2 : v0 = 3 → G X d 18 75 [none, none, none, none, none, some (.int v4), none] [] h) (k3 : v0 = 4 → G X d 18 84 [none, none, none, none, none, none, some (.int ((5 * v1) + 4))] [] h) (k4 : v0 = 5 → G X d 18 87 [none, none, none, some (.int v3), none, none, some (.int ((5 * v1) + 4))] [] h) (kd : ¬ v0 = 1 → ¬ v0 = 2 → ¬ v0 = 3 → ¬ v0 = 4 → ¬ v0 = 5 → G X d 18 101 [none, none, none, none, some (.int v4), none, none] [] h) : G X d 18 19 [some (.int v0), some (.int v1), some (.int v2), some (.int v3), some (.int v4), none, none] [] h := by
  refine g_iload d_18_19 rfl ?_
  refine g_istore d_18_21 (Nat.le_of_ble_eq_true rfl) rfl ?_
  refine g_iconst (v := 5) d_18_23 (by decide) ?_
  refine g_iload_n d_18_24 rfl rfl ?_
  refine g_imul d_18_25 ?_
  refine g_iconst (v := 4) d_18_26 (by decide) ?_
  refine g_iadd d_18_27 ?_
  refine g_istore d_18_28 (Nat.le_of_ble_eq_true rfl) rfl ?_
  refine g_iload_n d_18_30 rfl rfl ?_
  exact g_table (tls := [(1, 64), (2, 72), (3, 75), (4, 84), (5, 87)]) (df := 101) d_18_31 (by decide +kernel) ⟨fun q => g_mask [false, false, true, false, true, false, false] (k0 q), fun n0 => ⟨fun q => g_mask [false, false, false, false, false, true, false] (k1 q), fun n1 => ⟨fun q => g_mask [false, false, false, false, false, true, false] (k2 q), fun n2 => ⟨fun q => g_mask [false, false, false, false, false, false, true] (k3 q), fun n3 => ⟨fun q => g_mask [false, false, false, true, false, false, true] (k4 q), fun n4 => (g_mask [false, false, false, false, true, false, false] (kd n0 n1 n2 n3 n4))⟩⟩⟩⟩⟩

theorem k_18_64 {X : GX} {d : Nat} {h : Hp} {v2 : Int32} {v4 : Int32} (hq : RtX X (some (.int (v4 + (v2 / 10)))) h) : G X d 18 64 [none, none, some (.int v2), none, some (.int v4), none, none] [] h := by
  refine g_iload d_18_64 rfl ?_
  refine g_iload_n d_18_66 rfl rfl ?_
  refine g_bipush (v := 10) d_18_67 (by decide) ?_
  refine g_idiv d_18_69 (by decide) ?_
  refine g_iadd d_18_70 ?_
  exact g_reti d_18_71 rfl hq

theorem k_18_72 {X : GX} {d : Nat} {h : Hp} {v5 : Int32} (hq : RtX X (some (.int v5)) h) : G X d 18 72 [none, none, none, none, none, some (.int v5), none] [] h := by
  refine g_iload d_18_72 rfl ?_
  exact g_reti d_18_74 rfl hq

theorem k_18_75 {X : GX} {d : Nat} {h : Hp} {v5 : Int32} (dd0 : 0 < d) (hq : RtX X (some (.int (if 0 < (v5 - 3) then (v5 - 3) else 0))) h) : G X d 18 75 [none, none, none, none, none, some (.int v5), none] [] h := by
  refine g_iconst (v := 0) d_18_75 (by decide) ?_
  refine g_iload d_18_76 rfl ?_
  refine g_iconst (v := 3) d_18_78 (by decide) ?_
  refine g_isub d_18_79 ?_
  refine g_mmax d_18_80 wd_151 (Nat.le_of_ble_eq_true rfl) dd0 ?_
  exact g_reti d_18_83 rfl hq

theorem k_18_84 {X : GX} {d : Nat} {h : Hp} {v6 : Int32} (hq : RtX X (some (.int v6)) h) : G X d 18 84 [none, none, none, none, none, none, some (.int v6)] [] h := by
  refine g_iload d_18_84 rfl ?_
  exact g_reti d_18_86 rfl hq

theorem k_18_87 {X : GX} {d : Nat} {h : Hp} {v3 : Int32} {v6 : Int32} (kt : ¬ (v3 - v3 / 2 * 2) = 1 → G X d 18 98 [none, none, none, none, none, none, some (.int v6)] [] h) (kf : (v3 - v3 / 2 * 2) = 1 → G X d 18 94 [none, none, none, none, none, none, none] [] h) : G X d 18 87 [none, none, none, some (.int v3), none, none, some (.int v6)] [] h := by
  refine g_iload_n d_18_87 rfl rfl ?_
  refine g_iconst (v := 2) d_18_88 (by decide) ?_
  refine g_irem d_18_89 (by decide) ?_
  refine g_iconst (v := 1) d_18_90 (by decide) ?_
  exact g_icmp_ne (tgt := 98) d_18_91 (by decide) (fun q => g_mask [false, false, false, false, false, false, true] (kt q)) (fun q => g_mask [false, false, false, false, false, false, false] (kf q))

theorem k_18_94 {X : GX} {d : Nat} {h : Hp} (hq : RtX X (some (.int 0)) h) : G X d 18 94 [none, none, none, none, none, none, none] [] h := by
  refine g_iconst (v := 0) d_18_94 (by decide) ?_
  refine g_goto (tgt := 100) d_18_95 (by decide) ?_
  exact g_reti d_18_100 rfl hq

theorem k_18_98 {X : GX} {d : Nat} {h : Hp} {v6 : Int32} (hq : RtX X (some (.int v6)) h) : G X d 18 98 [none, none, none, none, none, none, some (.int v6)] [] h := by
  refine g_iload d_18_98 rfl ?_
  exact g_reti d_18_100 rfl hq

theorem k_18_101 {X : GX} {d : Nat} {h : Hp} {v4 : Int32} (hq : RtX X (some (.int v4)) h) : G X d 18 101 [none, none, none, none, some (.int v4), none, none] [] h := by
  refine g_iload d_18_101 rfl ?_
  exact g_reti d_18_103 rfl hq

/-! 22 PlayedTruth$Kind.draws(IIII)I -/
theorem k_22_0 {X : GX} {d : Nat} {h : Hp} {v0 : Int32} {v1 : Int32} {v2 : Int32} {v3 : Int32} (dd0 : 0 < d) (k0 : v0 = 1 → G X d 22 52 [none, none, none, none, none] [] h) (k1 : v0 = 2 → G X d 22 55 [none, some (.int v1), none, none, some (.int (if 0 < ((10 + v1) - (v2 / 9)) then ((10 + v1) - (v2 / 9)) else 0))] [] h) (k2 : v0 = 3 → G X d 22 60 [none, some (.int v1), none, none, some (.int (if 0 < ((10 + v1) - (v2 / 9)) then ((10 + v1) - (v2 / 9)) else 0))] [] h) (k3 : v0 = 4 → G X d 22 67 [none, none, none, none, some (.int (if 0 < ((10 + v1) - (v2 / 9)) then ((10 + v1) - (v2 / 9)) else 0))] [] h) (k4 : v0 = 5 → G X d 22 72 [none, none, none, some (.int v3), some (.int (if 0 < ((10 + v1) - (v2 / 9)) then ((10 + v1) - (v2 / 9)) else 0))] [] h) (kd : ¬ v0 = 1 → ¬ v0 = 2 → ¬ v0 = 3 → ¬ v0 = 4 → ¬ v0 = 5 → G X d 22 79 [none, none, none, none, some (.int (if 0 < ((10 + v1) - (v2 / 9)) then ((10 + v1) - (v2 / 9)) else 0))] [] h) : G X d 22 0 [some (.int v0), some (.int v1), some (.int v2), some (.int v3), none] [] h := by
  refine g_iconst (v := 0) d_22_0 (by decide) ?_
  refine g_bipush (v := 10) d_22_1 (by decide) ?_
  refine g_iload_n d_22_3 rfl rfl ?_
  refine g_iadd d_22_4 ?_
  refine g_iload_n d_22_5 rfl rfl ?_
  refine g_bipush (v := 9) d_22_6 (by decide) ?_
  refine g_idiv d_22_8 (by decide) ?_
  refine g_isub d_22_9 ?_
  refine g_mmax d_22_10 wd_151 (Nat.le_of_ble_eq_true rfl) dd0 ?_
  refine g_istore d_22_13 (Nat.le_of_ble_eq_true rfl) rfl ?_
  refine g_iload_n d_22_15 rfl rfl ?_
  exact g_table (tls := [(1, 52), (2, 55), (3, 60), (4, 67), (5, 72)]) (df := 79) d_22_16 (by decide +kernel) ⟨fun q => g_mask [false, false, false, false, false] (k0 q), fun n0 => ⟨fun q => g_mask [false, true, false, false, true] (k1 q), fun n1 => ⟨fun q => g_mask [false, true, false, false, true] (k2 q), fun n2 => ⟨fun q => g_mask [false, false, false, false, true] (k3 q), fun n3 => ⟨fun q => g_mask [false, false, false, true, true] (k4 q), fun n4 => (g_mask [false, false, false, false, true] (kd n0 n1 n2 n3 n4))⟩⟩⟩⟩⟩

theorem k_22_52 {X : GX} {d : Nat} {h : Hp} (hq : RtX X (some (.int 9)) h) : G X d 22 52 [none, none, none, none, none] [] h := by
  refine g_bipush (v := 9) d_22_52 (by decide) ?_
  exact g_reti d_22_54 rfl hq

theorem k_22_55 {X : GX} {d : Nat} {h : Hp} {v1 : Int32} {v4 : Int32} (hq : RtX X (some (.int (v4 + v1))) h) : G X d 22 55 [none, some (.int v1), none, none, some (.int v4)] [] h := by
  refine g_iload d_22_55 rfl ?_
  refine g_iload_n d_22_57 rfl rfl ?_
  refine g_iadd d_22_58 ?_
  exact g_reti d_22_59 rfl hq

theorem k_22_60 {X : GX} {d : Nat} {h : Hp} {v1 : Int32} {v4 : Int32} (hq : RtX X (some (.int (2 * (v4 + v1)))) h) : G X d 22 60 [none, some (.int v1), none, none, some (.int v4)] [] h := by
  refine g_iconst (v := 2) d_22_60 (by decide) ?_
  refine g_iload d_22_61 rfl ?_
  refine g_iload_n d_22_63 rfl rfl ?_
  refine g_iadd d_22_64 ?_
  refine g_imul d_22_65 ?_
  exact g_reti d_22_66 rfl hq

theorem k_22_67 {X : GX} {d : Nat} {h : Hp} {v4 : Int32} (hq : RtX X (some (.int (v4 / 2))) h) : G X d 22 67 [none, none, none, none, some (.int v4)] [] h := by
  refine g_iload d_22_67 rfl ?_
  refine g_iconst (v := 2) d_22_69 (by decide) ?_
  refine g_idiv d_22_70 (by decide) ?_
  exact g_reti d_22_71 rfl hq

theorem k_22_72 {X : GX} {d : Nat} {h : Hp} {v3 : Int32} {v4 : Int32} (hq : RtX X (some (.int ((v4 / 2) + v3))) h) : G X d 22 72 [none, none, none, some (.int v3), some (.int v4)] [] h := by
  refine g_iload d_22_72 rfl ?_
  refine g_iconst (v := 2) d_22_74 (by decide) ?_
  refine g_idiv d_22_75 (by decide) ?_
  refine g_iload_n d_22_76 rfl rfl ?_
  refine g_iadd d_22_77 ?_
  exact g_reti d_22_78 rfl hq

theorem k_22_79 {X : GX} {d : Nat} {h : Hp} {v4 : Int32} (hq : RtX X (some (.int v4)) h) : G X d 22 79 [none, none, none, none, some (.int v4)] [] h := by
  refine g_iload d_22_79 rfl ?_
  exact g_reti d_22_81 rfl hq

/-! 26 PlayedTruth$Kind.isAs(II)Z -/
theorem k_26_0 {X : GX} {d : Nat} {h : Hp} {v0 : Int32} {v1 : Int32} (kt : v0 = v1 → G X d 26 9 [none, none] [] h) (kf : ¬ v0 = v1 → G X d 26 5 [some (.int v0), some (.int v1)] [] h) : G X d 26 0 [some (.int v0), some (.int v1)] [] h := by
  refine g_iload_n d_26_0 rfl rfl ?_
  refine g_iload_n d_26_1 rfl rfl ?_
  exact g_icmp_eq (tgt := 9) d_26_2 (by decide) (fun q => g_mask [false, false] (kt q)) kf

theorem k_26_5 {X : GX} {d : Nat} {h : Hp} {v0 : Int32} {v1 : Int32} (kt : ¬ v1 = 0 → G X d 26 11 [some (.int v0), some (.int v1)] [] h) (kf : v1 = 0 → G X d 26 9 [none, none] [] h) : G X d 26 5 [some (.int v0), some (.int v1)] [] h := by
  refine g_iload_n d_26_5 rfl rfl ?_
  exact g_if_ne (tgt := 11) d_26_6 (by decide) kt (fun q => g_mask [false, false] (kf q))

theorem k_26_9 {X : GX} {d : Nat} {h : Hp} (hq : RtX X (some (.int 1)) h) : G X d 26 9 [none, none] [] h := by
  refine g_iconst (v := 1) d_26_9 (by decide) ?_
  exact g_retz d_26_10 rfl z01_1 hq

theorem k_26_11 {X : GX} {d : Nat} {h : Hp} {v0 : Int32} {v1 : Int32} (kt : ¬ v0 = 3 → G X d 26 21 [some (.int v0), some (.int v1)] [] h) (kf : v0 = 3 → G X d 26 16 [some (.int v0), some (.int v1)] [] h) : G X d 26 11 [some (.int v0), some (.int v1)] [] h := by
  refine g_iload_n d_26_11 rfl rfl ?_
  refine g_iconst (v := 3) d_26_12 (by decide) ?_
  exact g_icmp_ne (tgt := 21) d_26_13 (by decide) kt kf

theorem k_26_16 {X : GX} {d : Nat} {h : Hp} {v0 : Int32} {v1 : Int32} (kt : v1 = 2 → G X d 26 31 [none, none] [] h) (kf : ¬ v1 = 2 → G X d 26 21 [some (.int v0), some (.int v1)] [] h) : G X d 26 16 [some (.int v0), some (.int v1)] [] h := by
  refine g_iload_n d_26_16 rfl rfl ?_
  refine g_iconst (v := 2) d_26_17 (by decide) ?_
  exact g_icmp_eq (tgt := 31) d_26_18 (by decide) (fun q => g_mask [false, false] (kt q)) kf

theorem k_26_21 {X : GX} {d : Nat} {h : Hp} {v0 : Int32} {v1 : Int32} (kt : ¬ v0 = 5 → G X d 26 35 [none, none] [] h) (kf : v0 = 5 → G X d 26 26 [none, some (.int v1)] [] h) : G X d 26 21 [some (.int v0), some (.int v1)] [] h := by
  refine g_iload_n d_26_21 rfl rfl ?_
  refine g_iconst (v := 5) d_26_22 (by decide) ?_
  exact g_icmp_ne (tgt := 35) d_26_23 (by decide) (fun q => g_mask [false, false] (kt q)) (fun q => g_mask [false, true] (kf q))

theorem k_26_26 {X : GX} {d : Nat} {h : Hp} {v1 : Int32} (kt : ¬ v1 = 4 → G X d 26 35 [none, none] [] h) (kf : v1 = 4 → G X d 26 31 [none, none] [] h) : G X d 26 26 [none, some (.int v1)] [] h := by
  refine g_iload_n d_26_26 rfl rfl ?_
  refine g_iconst (v := 4) d_26_27 (by decide) ?_
  exact g_icmp_ne (tgt := 35) d_26_28 (by decide) (fun q => g_mask [false, false] (kt q)) (fun q => g_mask [false, false] (kf q))

theorem k_26_31 {X : GX} {d : Nat} {h : Hp} (hq : RtX X (some (.int 1)) h) : G X d 26 31 [none, none] [] h := by
  refine g_iconst (v := 1) d_26_31 (by decide) ?_
  refine g_goto (tgt := 36) d_26_32 (by decide) ?_
  exact g_retz d_26_36 rfl z01_1 hq

theorem k_26_35 {X : GX} {d : Nat} {h : Hp} (hq : RtX X (some (.int 0)) h) : G X d 26 35 [none, none] [] h := by
  refine g_iconst (v := 0) d_26_35 (by decide) ?_
  exact g_retz d_26_36 rfl z01_0 hq

/-! 15 PlayedTruth$Moment.isSettled(I)Z -/
theorem k_15_0 {X : GX} {d : Nat} {h : Hp} {v0 : Nat} {v1 : Int32} (o0 : sh v0 = (1, 3)) (kt : ¬ (((h v0 2) >>> (v1 &&& 31)) &&& 1) = 1 → G X d 15 16 [none, none] [] h) (kf : (((h v0 2) >>> (v1 &&& 31)) &&& 1) = 1 → G X d 15 12 [none, none] [] h) : G X d 15 0 [some (.ref v0), some (.int v1)] [] h := by
  refine g_aload_n d_15_0 rfl rfl ?_
  refine g_getf (ci := 3) (k := 2) d_15_1 wd_40 (Nat.le_of_ble_eq_true rfl) rfl o0 ?_
  refine g_iload_n d_15_4 rfl rfl ?_
  refine g_ishr d_15_5 ?_
  refine g_iconst (v := 1) d_15_6 (by decide) ?_
  refine g_iand d_15_7 ?_
  refine g_iconst (v := 1) d_15_8 (by decide) ?_
  exact g_icmp_ne (tgt := 16) d_15_9 (by decide) (fun q => g_mask [false, false] (kt q)) (fun q => g_mask [false, false] (kf q))

theorem k_15_12 {X : GX} {d : Nat} {h : Hp} (hq : RtX X (some (.int 1)) h) : G X d 15 12 [none, none] [] h := by
  refine g_iconst (v := 1) d_15_12 (by decide) ?_
  refine g_goto (tgt := 17) d_15_13 (by decide) ?_
  exact g_retz d_15_17 rfl z01_1 hq

theorem k_15_16 {X : GX} {d : Nat} {h : Hp} (hq : RtX X (some (.int 0)) h) : G X d 15 16 [none, none] [] h := by
  refine g_iconst (v := 0) d_15_16 (by decide) ?_
  exact g_retz d_15_17 rfl z01_0 hq

/-! 88 PlayedTruth$Moment.copyFrom(LPlayedTruth$Moment;)V -/
theorem k_88_0 {X : GX} {d : Nat} {h : Hp} {v0 : Nat} {v1 : Nat} (o0 : sh v1 = (1, 3)) (o1 : sh v0 = (1, 3)) (dd2 : 0 < d) (o3 : sh (v1 + 1) = (0, 6)) (o4 : sh (v0 + 1) = (0, 6)) (o5 : sh (v1 + 2) = (0, 6)) (o6 : sh (v0 + 2) = (0, 6)) (hq : RtX X none (wr (wr (wr (wr (wrA (wrA h (v0 + 1) (va_cpy (h (v1 + 1)) (h (v0 + 1)) (Int32.toNatClampNeg 0) (Int32.toNatClampNeg 0) (Int32.toNatClampNeg 6))) (v0 + 2) (va_cpy ((wrA h (v0 + 1) (va_cpy (h (v1 + 1)) (h (v0 + 1)) (Int32.toNatClampNeg 0) (Int32.toNatClampNeg 0) (Int32.toNatClampNeg 6))) (v1 + 2)) ((wrA h (v0 + 1) (va_cpy (h (v1 + 1)) (h (v0 + 1)) (Int32.toNatClampNeg 0) (Int32.toNatClampNeg 0) (Int32.toNatClampNeg 6))) (v0 + 2)) (Int32.toNatClampNeg 0) (Int32.toNatClampNeg 0) (Int32.toNatClampNeg 6))) v0 2 ((wrA (wrA h (v0 + 1) (va_cpy (h (v1 + 1)) (h (v0 + 1)) (Int32.toNatClampNeg 0) (Int32.toNatClampNeg 0) (Int32.toNatClampNeg 6))) (v0 + 2) (va_cpy ((wrA h (v0 + 1) (va_cpy (h (v1 + 1)) (h (v0 + 1)) (Int32.toNatClampNeg 0) (Int32.toNatClampNeg 0) (Int32.toNatClampNeg 6))) (v1 + 2)) ((wrA h (v0 + 1) (va_cpy (h (v1 + 1)) (h (v0 + 1)) (Int32.toNatClampNeg 0) (Int32.toNatClampNeg 0) (Int32.toNatClampNeg 6))) (v0 + 2)) (Int32.toNatClampNeg 0) (Int32.toNatClampNeg 0) (Int32.toNatClampNeg 6))) v1 2)) v0 3 ((wr (wrA (wrA h (v0 + 1) (va_cpy (h (v1 + 1)) (h (v0 + 1)) (Int32.toNatClampNeg 0) (Int32.toNatClampNeg 0) (Int32.toNatClampNeg 6))) (v0 + 2) (va_cpy ((wrA h (v0 + 1) (va_cpy (h (v1 + 1)) (h (v0 + 1)) (Int32.toNatClampNeg 0) (Int32.toNatClampNeg 0) (Int32.toNatClampNeg 6))) (v1 + 2)) ((wrA h (v0 + 1) (va_cpy (h (v1 + 1)) (h (v0 + 1)) (Int32.toNatClampNeg 0) (Int32.toNatClampNeg 0) (Int32.toNatClampNeg 6))) (v0 + 2)) (Int32.toNatClampNeg 0) (Int32.toNatClampNeg 0) (Int32.toNatClampNeg 6))) v0 2 ((wrA (wrA h (v0 + 1) (va_cpy (h (v1 + 1)) (h (v0 + 1)) (Int32.toNatClampNeg 0) (Int32.toNatClampNeg 0) (Int32.toNatClampNeg 6))) (v0 + 2) (va_cpy ((wrA h (v0 + 1) (va_cpy (h (v1 + 1)) (h (v0 + 1)) (Int32.toNatClampNeg 0) (Int32.toNatClampNeg 0) (Int32.toNatClampNeg 6))) (v1 + 2)) ((wrA h (v0 + 1) (va_cpy (h (v1 + 1)) (h (v0 + 1)) (Int32.toNatClampNeg 0) (Int32.toNatClampNeg 0) (Int32.toNatClampNeg 6))) (v0 + 2)) (Int32.toNatClampNeg 0) (Int32.toNatClampNeg 0) (Int32.toNatClampNeg 6))) v1 2)) v1 3)) v0 4 ((wr (wr (wrA (wrA h (v0 + 1) (va_cpy (h (v1 + 1)) (h (v0 + 1)) (Int32.toNatClampNeg 0) (Int32.toNatClampNeg 0) (Int32.toNatClampNeg 6))) (v0 + 2) (va_cpy ((wrA h (v0 + 1) (va_cpy (h (v1 + 1)) (h (v0 + 1)) (Int32.toNatClampNeg 0) (Int32.toNatClampNeg 0) (Int32.toNatClampNeg 6))) (v1 + 2)) ((wrA h (v0 + 1) (va_cpy (h (v1 + 1)) (h (v0 + 1)) (Int32.toNatClampNeg 0) (Int32.toNatClampNeg 0) (Int32.toNatClampNeg 6))) (v0 + 2)) (Int32.toNatClampNeg 0) (Int32.toNatClampNeg 0) (Int32.toNatClampNeg 6))) v0 2 ((wrA (wrA h (v0 + 1) (va_cpy (h (v1 + 1)) (h (v0 + 1)) (Int32.toNatClampNeg 0) (Int32.toNatClampNeg 0) (Int32.toNatClampNeg 6))) (v0 + 2) (va_cpy ((wrA h (v0 + 1) (va_cpy (h (v1 + 1)) (h (v0 + 1)) (Int32.toNatClampNeg 0) (Int32.toNatClampNeg 0) (Int32.toNatClampNeg 6))) (v1 + 2)) ((wrA h (v0 + 1) (va_cpy (h (v1 + 1)) (h (v0 + 1)) (Int32.toNatClampNeg 0) (Int32.toNatClampNeg 0) (Int32.toNatClampNeg 6))) (v0 + 2)) (Int32.toNatClampNeg 0) (Int32.toNatClampNeg 0) (Int32.toNatClampNeg 6))) v1 2)) v0 3 ((wr (wrA (wrA h (v0 + 1) (va_cpy (h (v1 + 1)) (h (v0 + 1)) (Int32.toNatClampNeg 0) (Int32.toNatClampNeg 0) (Int32.toNatClampNeg 6))) (v0 + 2) (va_cpy ((wrA h (v0 + 1) (va_cpy (h (v1 + 1)) (h (v0 + 1)) (Int32.toNatClampNeg 0) (Int32.toNatClampNeg 0) (Int32.toNatClampNeg 6))) (v1 + 2)) ((wrA h (v0 + 1) (va_cpy (h (v1 + 1)) (h (v0 + 1)) (Int32.toNatClampNeg 0) (Int32.toNatClampNeg 0) (Int32.toNatClampNeg 6))) (v0 + 2)) (Int32.toNatClampNeg 0) (Int32.toNatClampNeg 0) (Int32.toNatClampNeg 6))) v0 2 ((wrA (wrA h (v0 + 1) (va_cpy (h (v1 + 1)) (h (v0 + 1)) (Int32.toNatClampNeg 0) (Int32.toNatClampNeg 0) (Int32.toNatClampNeg 6))) (v0 + 2) (va_cpy ((wrA h (v0 + 1) (va_cpy (h (v1 + 1)) (h (v0 + 1)) (Int32.toNatClampNeg 0) (Int32.toNatClampNeg 0) (Int32.toNatClampNeg 6))) (v1 + 2)) ((wrA h (v0 + 1) (va_cpy (h (v1 + 1)) (h (v0 + 1)) (Int32.toNatClampNeg 0) (Int32.toNatClampNeg 0) (Int32.toNatClampNeg 6))) (v0 + 2)) (Int32.toNatClampNeg 0) (Int32.toNatClampNeg 0) (Int32.toNatClampNeg 6))) v1 2)) v1 3)) v1 4)) v0 5 ((wr (wr (wr (wrA (wrA h (v0 + 1) (va_cpy (h (v1 + 1)) (h (v0 + 1)) (Int32.toNatClampNeg 0) (Int32.toNatClampNeg 0) (Int32.toNatClampNeg 6))) (v0 + 2) (va_cpy ((wrA h (v0 + 1) (va_cpy (h (v1 + 1)) (h (v0 + 1)) (Int32.toNatClampNeg 0) (Int32.toNatClampNeg 0) (Int32.toNatClampNeg 6))) (v1 + 2)) ((wrA h (v0 + 1) (va_cpy (h (v1 + 1)) (h (v0 + 1)) (Int32.toNatClampNeg 0) (Int32.toNatClampNeg 0) (Int32.toNatClampNeg 6))) (v0 + 2)) (Int32.toNatClampNeg 0) (Int32.toNatClampNeg 0) (Int32.toNatClampNeg 6))) v0 2 ((wrA (wrA h (v0 + 1) (va_cpy (h (v1 + 1)) (h (v0 + 1)) (Int32.toNatClampNeg 0) (Int32.toNatClampNeg 0) (Int32.toNatClampNeg 6))) (v0 + 2) (va_cpy ((wrA h (v0 + 1) (va_cpy (h (v1 + 1)) (h (v0 + 1)) (Int32.toNatClampNeg 0) (Int32.toNatClampNeg 0) (Int32.toNatClampNeg 6))) (v1 + 2)) ((wrA h (v0 + 1) (va_cpy (h (v1 + 1)) (h (v0 + 1)) (Int32.toNatClampNeg 0) (Int32.toNatClampNeg 0) (Int32.toNatClampNeg 6))) (v0 + 2)) (Int32.toNatClampNeg 0) (Int32.toNatClampNeg 0) (Int32.toNatClampNeg 6))) v1 2)) v0 3 ((wr (wrA (wrA h (v0 + 1) (va_cpy (h (v1 + 1)) (h (v0 + 1)) (Int32.toNatClampNeg 0) (Int32.toNatClampNeg 0) (Int32.toNatClampNeg 6))) (v0 + 2) (va_cpy ((wrA h (v0 + 1) (va_cpy (h (v1 + 1)) (h (v0 + 1)) (Int32.toNatClampNeg 0) (Int32.toNatClampNeg 0) (Int32.toNatClampNeg 6))) (v1 + 2)) ((wrA h (v0 + 1) (va_cpy (h (v1 + 1)) (h (v0 + 1)) (Int32.toNatClampNeg 0) (Int32.toNatClampNeg 0) (Int32.toNatClampNeg 6))) (v0 + 2)) (Int32.toNatClampNeg 0) (Int32.toNatClampNeg 0) (Int32.toNatClampNeg 6))) v0 2 ((wrA (wrA h (v0 + 1) (va_cpy (h (v1 + 1)) (h (v0 + 1)) (Int32.toNatClampNeg 0) (Int32.toNatClampNeg 0) (Int32.toNatClampNeg 6))) (v0 + 2) (va_cpy ((wrA h (v0 + 1) (va_cpy (h (v1 + 1)) (h (v0 + 1)) (Int32.toNatClampNeg 0) (Int32.toNatClampNeg 0) (Int32.toNatClampNeg 6))) (v1 + 2)) ((wrA h (v0 + 1) (va_cpy (h (v1 + 1)) (h (v0 + 1)) (Int32.toNatClampNeg 0) (Int32.toNatClampNeg 0) (Int32.toNatClampNeg 6))) (v0 + 2)) (Int32.toNatClampNeg 0) (Int32.toNatClampNeg 0) (Int32.toNatClampNeg 6))) v1 2)) v1 3)) v0 4 ((wr (wr (wrA (wrA h (v0 + 1) (va_cpy (h (v1 + 1)) (h (v0 + 1)) (Int32.toNatClampNeg 0) (Int32.toNatClampNeg 0) (Int32.toNatClampNeg 6))) (v0 + 2) (va_cpy ((wrA h (v0 + 1) (va_cpy (h (v1 + 1)) (h (v0 + 1)) (Int32.toNatClampNeg 0) (Int32.toNatClampNeg 0) (Int32.toNatClampNeg 6))) (v1 + 2)) ((wrA h (v0 + 1) (va_cpy (h (v1 + 1)) (h (v0 + 1)) (Int32.toNatClampNeg 0) (Int32.toNatClampNeg 0) (Int32.toNatClampNeg 6))) (v0 + 2)) (Int32.toNatClampNeg 0) (Int32.toNatClampNeg 0) (Int32.toNatClampNeg 6))) v0 2 ((wrA (wrA h (v0 + 1) (va_cpy (h (v1 + 1)) (h (v0 + 1)) (Int32.toNatClampNeg 0) (Int32.toNatClampNeg 0) (Int32.toNatClampNeg 6))) (v0 + 2) (va_cpy ((wrA h (v0 + 1) (va_cpy (h (v1 + 1)) (h (v0 + 1)) (Int32.toNatClampNeg 0) (Int32.toNatClampNeg 0) (Int32.toNatClampNeg 6))) (v1 + 2)) ((wrA h (v0 + 1) (va_cpy (h (v1 + 1)) (h (v0 + 1)) (Int32.toNatClampNeg 0) (Int32.toNatClampNeg 0) (Int32.toNatClampNeg 6))) (v0 + 2)) (Int32.toNatClampNeg 0) (Int32.toNatClampNeg 0) (Int32.toNatClampNeg 6))) v1 2)) v0 3 ((wr (wrA (wrA h (v0 + 1) (va_cpy (h (v1 + 1)) (h (v0 + 1)) (Int32.toNatClampNeg 0) (Int32.toNatClampNeg 0) (Int32.toNatClampNeg 6))) (v0 + 2) (va_cpy ((wrA h (v0 + 1) (va_cpy (h (v1 + 1)) (h (v0 + 1)) (Int32.toNatClampNeg 0) (Int32.toNatClampNeg 0) (Int32.toNatClampNeg 6))) (v1 + 2)) ((wrA h (v0 + 1) (va_cpy (h (v1 + 1)) (h (v0 + 1)) (Int32.toNatClampNeg 0) (Int32.toNatClampNeg 0) (Int32.toNatClampNeg 6))) (v0 + 2)) (Int32.toNatClampNeg 0) (Int32.toNatClampNeg 0) (Int32.toNatClampNeg 6))) v0 2 ((wrA (wrA h (v0 + 1) (va_cpy (h (v1 + 1)) (h (v0 + 1)) (Int32.toNatClampNeg 0) (Int32.toNatClampNeg 0) (Int32.toNatClampNeg 6))) (v0 + 2) (va_cpy ((wrA h (v0 + 1) (va_cpy (h (v1 + 1)) (h (v0 + 1)) (Int32.toNatClampNeg 0) (Int32.toNatClampNeg 0) (Int32.toNatClampNeg 6))) (v1 + 2)) ((wrA h (v0 + 1) (va_cpy (h (v1 + 1)) (h (v0 + 1)) (Int32.toNatClampNeg 0) (Int32.toNatClampNeg 0) (Int32.toNatClampNeg 6))) (v0 + 2)) (Int32.toNatClampNeg 0) (Int32.toNatClampNeg 0) (Int32.toNatClampNeg 6))) v1 2)) v1 3)) v1 4)) v1 5))) : G X d 88 0 [some (.ref v0), some (.ref v1)] [] h := by
  refine g_aload_n d_88_0 rfl rfl ?_
  refine g_getf (ci := 3) (k := 0) d_88_1 wd_34 (Nat.le_of_ble_eq_true rfl) rfl o0 ?_
  refine g_iconst (v := 0) d_88_4 (by decide) ?_
  refine g_aload_n d_88_5 rfl rfl ?_
  refine g_getf (ci := 3) (k := 0) d_88_6 wd_34 (Nat.le_of_ble_eq_true rfl) rfl o1 ?_
  refine g_iconst (v := 0) d_88_9 (by decide) ?_
  refine g_bipush (v := 6) d_88_10 (by decide) ?_
  refine g_copy (n0 := 6) (n1 := 6) d_88_12 wd_237 ac_nat ac_st ac_in (Nat.le_of_ble_eq_true rfl) dd2 o3 o4 (by decide) (by decide) (by decide) (by decide) (by decide) ?_
  refine g_aload_n d_88_15 rfl rfl ?_
  refine g_getf (ci := 3) (k := 1) d_88_16 wd_37 (Nat.le_of_ble_eq_true rfl) rfl o0 ?_
  refine g_iconst (v := 0) d_88_19 (by decide) ?_
  refine g_aload_n d_88_20 rfl rfl ?_
  refine g_getf (ci := 3) (k := 1) d_88_21 wd_37 (Nat.le_of_ble_eq_true rfl) rfl o1 ?_
  refine g_iconst (v := 0) d_88_24 (by decide) ?_
  refine g_bipush (v := 6) d_88_25 (by decide) ?_
  refine g_copy (n0 := 6) (n1 := 6) d_88_27 wd_237 ac_nat ac_st ac_in (Nat.le_of_ble_eq_true rfl) dd2 o5 o6 (by decide) (by decide) (by decide) (by decide) (by decide) ?_
  refine g_aload_n d_88_30 rfl rfl ?_
  refine g_aload_n d_88_31 rfl rfl ?_
  refine g_getf (ci := 3) (k := 2) d_88_32 wd_40 (Nat.le_of_ble_eq_true rfl) rfl o0 ?_
  refine g_putf (ci := 3) (k := 2) d_88_35 wd_40 (Nat.le_of_ble_eq_true rfl) (Nat.le_of_ble_eq_true rfl) rfl rfl (Or.inl ⟨rfl, rfl⟩) o1 ?_
  refine g_aload_n d_88_38 rfl rfl ?_
  refine g_aload_n d_88_39 rfl rfl ?_
  refine g_getf (ci := 3) (k := 3) d_88_40 wd_44 (Nat.le_of_ble_eq_true rfl) rfl o0 ?_
  refine g_putf (ci := 3) (k := 3) d_88_43 wd_44 (Nat.le_of_ble_eq_true rfl) (Nat.le_of_ble_eq_true rfl) rfl rfl (Or.inl ⟨rfl, rfl⟩) o1 ?_
  refine g_aload_n d_88_46 rfl rfl ?_
  refine g_aload_n d_88_47 rfl rfl ?_
  refine g_getf (ci := 3) (k := 4) d_88_48 wd_48 (Nat.le_of_ble_eq_true rfl) rfl o0 ?_
  refine g_putf (ci := 3) (k := 4) d_88_51 wd_48 (Nat.le_of_ble_eq_true rfl) (Nat.le_of_ble_eq_true rfl) rfl rfl (Or.inl ⟨rfl, rfl⟩) o1 ?_
  refine g_aload_n d_88_54 rfl rfl ?_
  refine g_aload_n d_88_55 rfl rfl ?_
  refine g_getf (ci := 3) (k := 5) d_88_56 wd_52 (Nat.le_of_ble_eq_true rfl) rfl o0 ?_
  refine g_putf (ci := 3) (k := 5) d_88_59 wd_52 (Nat.le_of_ble_eq_true rfl) (Nat.le_of_ble_eq_true rfl) rfl rfl (Or.inl ⟨rfl, rfl⟩) o1 ?_
  exact g_retv d_88_62 rfl hq

