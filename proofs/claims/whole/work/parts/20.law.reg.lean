/-! 295 PlayedTruthLaw.law([I)Z -/
theorem k_295_18 {X : GX} {d : Nat} {h : Hp} {v3 : Int32} {L : Nat} {xs : Nat → Int32} (hX : X.2.2.2.2 = some (L, xs)) (kt : ((nI L) - 5) < v3 → G X d 295 1741 [none, none, none, none] [] h) (kf : ¬ ((nI L) - 5) < v3 → G X d 295 26 [some (.ref 999), some (.ref 0), some (.ref 84), some (.int v3)] [] h) : G X d 295 18 [some (.ref 999), some (.ref 0), some (.ref 84), some (.int v3)] [] h := by
  refine g_iload_n d_295_18 rfl rfl ?_
  refine g_aload_n d_295_19 rfl rfl ?_
  refine g_slen hX d_295_20 ?_
  refine g_iconst (v := 5) d_295_21 (by decide) ?_
  refine g_isub d_295_22 ?_
  exact g_icmp_gt (tgt := 1741) d_295_23 (by decide) (fun q => g_mask [false, false, false, false] (kt q)) kf

theorem k_295_26 {X : GX} {d : Nat} {h : Hp} {v3 : Int32} {L : Nat} {xs : Nat → Int32} (hX : X.2.2.2.2 = some (L, xs)) (b0 : vp_in v3 L) (k0 : ((xs (Int32.toNatClampNeg v3)) &&& 63) = 0 → G X d 295 252 [some (.ref 999), some (.ref 0), some (.ref 84), some (.int v3)] [] h) (k1 : ((xs (Int32.toNatClampNeg v3)) &&& 63) = 1 → G X d 295 305 [some (.ref 999), some (.ref 0), some (.ref 84), some (.int v3)] [] h) (k2 : ((xs (Int32.toNatClampNeg v3)) &&& 63) = 2 → G X d 295 338 [some (.ref 999), some (.ref 0), some (.ref 84), some (.int v3)] [] h) (k3 : ((xs (Int32.toNatClampNeg v3)) &&& 63) = 3 → G X d 295 381 [some (.ref 999), some (.ref 0), some (.ref 84), some (.int v3)] [] h) (k4 : ((xs (Int32.toNatClampNeg v3)) &&& 63) = 4 → G X d 295 414 [some (.ref 999), some (.ref 0), some (.ref 84), some (.int v3)] [] h) (k5 : ((xs (Int32.toNatClampNeg v3)) &&& 63) = 5 → G X d 295 447 [some (.ref 999), some (.ref 0), some (.ref 84), some (.int v3)] [] h) (k6 : ((xs (Int32.toNatClampNeg v3)) &&& 63) = 6 → G X d 295 490 [some (.ref 999), some (.ref 0), some (.ref 84), some (.int v3)] [] h) (k7 : ((xs (Int32.toNatClampNeg v3)) &&& 63) = 7 → G X d 295 523 [some (.ref 999), some (.ref 0), some (.ref 84), some (.int v3)] [] h) (k8 : ((xs (Int32.toNatClampNeg v3)) &&& 63) = 8 → G X d 295 546 [some (.ref 999), some (.ref 0), some (.ref 84), some (.int v3)] [] h) (k9 : ((xs (Int32.toNatClampNeg v3)) &&& 63) = 9 → G X d 295 559 [some (.ref 999), some (.ref 0), some (.ref 84), some (.int v3)] [] h) (k10 : ((xs (Int32.toNatClampNeg v3)) &&& 63) = 10 → G X d 295 582 [some (.ref 999), some (.ref 0), some (.ref 84), some (.int v3)] [] h) (k11 : ((xs (Int32.toNatClampNeg v3)) &&& 63) = 11 → G X d 295 645 [some (.ref 999), some (.ref 0), some (.ref 84), some (.int v3)] [] h) (k12 : ((xs (Int32.toNatClampNeg v3)) &&& 63) = 12 → G X d 295 658 [some (.ref 999), some (.ref 0), some (.ref 84), some (.int v3)] [] h) (k13 : ((xs (Int32.toNatClampNeg v3)) &&& 63) = 13 → G X d 295 671 [some (.ref 999), some (.ref 0), some (.ref 84), some (.int v3)] [] h) (k14 : ((xs (Int32.toNatClampNeg v3)) &&& 63) = 14 → G X d 295 694 [some (.ref 999), some (.ref 0), some (.ref 84), some (.int v3)] [] h) (k15 : ((xs (Int32.toNatClampNeg v3)) &&& 63) = 15 → G X d 295 717 [some (.ref 999), some (.ref 0), some (.ref 84), some (.int v3)] [] h) (k16 : ((xs (Int32.toNatClampNeg v3)) &&& 63) = 16 → G X d 295 740 [some (.ref 999), some (.ref 0), some (.ref 84), some (.int v3)] [] h) (k17 : ((xs (Int32.toNatClampNeg v3)) &&& 63) = 17 → G X d 295 763 [some (.ref 999), some (.ref 0), some (.ref 84), some (.int v3)] [] h) (k18 : ((xs (Int32.toNatClampNeg v3)) &&& 63) = 18 → G X d 295 786 [some (.ref 999), some (.ref 0), some (.ref 84), some (.int v3)] [] h) (k19 : ((xs (Int32.toNatClampNeg v3)) &&& 63) = 19 → G X d 295 809 [some (.ref 999), some (.ref 0), some (.ref 84), some (.int v3)] [] h) (k20 : ((xs (Int32.toNatClampNeg v3)) &&& 63) = 20 → G X d 295 832 [some (.ref 999), some (.ref 0), some (.ref 84), some (.int v3)] [] h) (k21 : ((xs (Int32.toNatClampNeg v3)) &&& 63) = 21 → G X d 295 855 [some (.ref 999), some (.ref 0), some (.ref 84), some (.int v3)] [] h) (k22 : ((xs (Int32.toNatClampNeg v3)) &&& 63) = 22 → G X d 295 878 [some (.ref 999), some (.ref 0), some (.ref 84), some (.int v3)] [] h) (k23 : ((xs (Int32.toNatClampNeg v3)) &&& 63) = 23 → G X d 295 911 [some (.ref 999), some (.ref 0), some (.ref 84), some (.int v3)] [] h) (k24 : ((xs (Int32.toNatClampNeg v3)) &&& 63) = 24 → G X d 295 934 [some (.ref 999), some (.ref 0), some (.ref 84), some (.int v3)] [] h) (k25 : ((xs (Int32.toNatClampNeg v3)) &&& 63) = 25 → G X d 295 967 [some (.ref 999), some (.ref 0), some (.ref 84), some (.int v3)] [] h) (k26 : ((xs (Int32.toNatClampNeg v3)) &&& 63) = 26 → G X d 295 1000 [some (.ref 999), some (.ref 0), some (.ref 84), some (.int v3)] [] h) (k27 : ((xs (Int32.toNatClampNeg v3)) &&& 63) = 27 → G X d 295 1023 [some (.ref 999), some (.ref 0), some (.ref 84), some (.int v3)] [] h) (k28 : ((xs (Int32.toNatClampNeg v3)) &&& 63) = 28 → G X d 295 1046 [some (.ref 999), some (.ref 0), some (.ref 84), some (.int v3)] [] h) (k29 : ((xs (Int32.toNatClampNeg v3)) &&& 63) = 29 → G X d 295 1099 [some (.ref 999), some (.ref 0), some (.ref 84), some (.int v3)] [] h) (k30 : ((xs (Int32.toNatClampNeg v3)) &&& 63) = 30 → G X d 295 1112 [some (.ref 999), some (.ref 0), some (.ref 84), some (.int v3)] [] h) (k31 : ((xs (Int32.toNatClampNeg v3)) &&& 63) = 31 → G X d 295 1135 [some (.ref 999), some (.ref 0), some (.ref 84), some (.int v3)] [] h) (k32 : ((xs (Int32.toNatClampNeg v3)) &&& 63) = 32 → G X d 295 1148 [some (.ref 999), some (.ref 0), some (.ref 84), some (.int v3)] [] h) (k33 : ((xs (Int32.toNatClampNeg v3)) &&& 63) = 33 → G X d 295 1171 [some (.ref 999), some (.ref 0), some (.ref 84), some (.int v3)] [] h) (k34 : ((xs (Int32.toNatClampNeg v3)) &&& 63) = 34 → G X d 295 1184 [some (.ref 999), some (.ref 0), some (.ref 84), some (.int v3)] [] h) (k35 : ((xs (Int32.toNatClampNeg v3)) &&& 63) = 35 → G X d 295 1217 [some (.ref 999), some (.ref 0), some (.ref 84), some (.int v3)] [] h) (k36 : ((xs (Int32.toNatClampNeg v3)) &&& 63) = 36 → G X d 295 1240 [some (.ref 999), some (.ref 0), some (.ref 84), some (.int v3)] [] h) (k37 : ((xs (Int32.toNatClampNeg v3)) &&& 63) = 37 → G X d 295 1273 [some (.ref 999), some (.ref 0), some (.ref 84), some (.int v3)] [] h) (k38 : ((xs (Int32.toNatClampNeg v3)) &&& 63) = 38 → G X d 295 1316 [some (.ref 999), some (.ref 0), some (.ref 84), some (.int v3)] [] h) (k39 : ((xs (Int32.toNatClampNeg v3)) &&& 63) = 39 → G X d 295 1329 [some (.ref 999), some (.ref 0), some (.ref 84), some (.int v3)] [] h) (k40 : ((xs (Int32.toNatClampNeg v3)) &&& 63) = 40 → G X d 295 1372 [some (.ref 999), some (.ref 0), some (.ref 84), some (.int v3)] [] h) (k41 : ((xs (Int32.toNatClampNeg v3)) &&& 63) = 41 → G X d 295 1415 [some (.ref 999), some (.ref 0), some (.ref 84), some (.int v3)] [] h) (k42 : ((xs (Int32.toNatClampNeg v3)) &&& 63) = 42 → G X d 295 1458 [some (.ref 999), some (.ref 0), some (.ref 84), some (.int v3)] [] h) (k43 : ((xs (Int32.toNatClampNeg v3)) &&& 63) = 43 → G X d 295 1501 [some (.ref 999), some (.ref 0), some (.ref 84), some (.int v3)] [] h) (k44 : ((xs (Int32.toNatClampNeg v3)) &&& 63) = 44 → G X d 295 1544 [some (.ref 999), some (.ref 0), some (.ref 84), some (.int v3)] [] h) (k45 : ((xs (Int32.toNatClampNeg v3)) &&& 63) = 45 → G X d 295 1587 [some (.ref 999), some (.ref 0), some (.ref 84), some (.int v3)] [] h) (k46 : ((xs (Int32.toNatClampNeg v3)) &&& 63) = 46 → G X d 295 1620 [some (.ref 999), some (.ref 0), some (.ref 84), some (.int v3)] [] h) (k47 : ((xs (Int32.toNatClampNeg v3)) &&& 63) = 47 → G X d 295 1663 [some (.ref 999), some (.ref 0), some (.ref 84), some (.int v3)] [] h) (k48 : ((xs (Int32.toNatClampNeg v3)) &&& 63) = 48 → G X d 295 1686 [some (.ref 999), some (.ref 0), some (.ref 84), some (.int v3)] [] h) (k49 : ((xs (Int32.toNatClampNeg v3)) &&& 63) = 49 → G X d 295 1709 [some (.ref 999), some (.ref 0), some (.ref 84), some (.int v3)] [] h) (k50 : ((xs (Int32.toNatClampNeg v3)) &&& 63) = 50 → G X d 295 1722 [some (.ref 999), some (.ref 0), some (.ref 84), some (.int v3)] [] h) (kd : ¬ ((xs (Int32.toNatClampNeg v3)) &&& 63) = 0 → ¬ ((xs (Int32.toNatClampNeg v3)) &&& 63) = 1 → ¬ ((xs (Int32.toNatClampNeg v3)) &&& 63) = 2 → ¬ ((xs (Int32.toNatClampNeg v3)) &&& 63) = 3 → ¬ ((xs (Int32.toNatClampNeg v3)) &&& 63) = 4 → ¬ ((xs (Int32.toNatClampNeg v3)) &&& 63) = 5 → ¬ ((xs (Int32.toNatClampNeg v3)) &&& 63) = 6 → ¬ ((xs (Int32.toNatClampNeg v3)) &&& 63) = 7 → ¬ ((xs (Int32.toNatClampNeg v3)) &&& 63) = 8 → ¬ ((xs (Int32.toNatClampNeg v3)) &&& 63) = 9 → ¬ ((xs (Int32.toNatClampNeg v3)) &&& 63) = 10 → ¬ ((xs (Int32.toNatClampNeg v3)) &&& 63) = 11 → ¬ ((xs (Int32.toNatClampNeg v3)) &&& 63) = 12 → ¬ ((xs (Int32.toNatClampNeg v3)) &&& 63) = 13 → ¬ ((xs (Int32.toNatClampNeg v3)) &&& 63) = 14 → ¬ ((xs (Int32.toNatClampNeg v3)) &&& 63) = 15 → ¬ ((xs (Int32.toNatClampNeg v3)) &&& 63) = 16 → ¬ ((xs (Int32.toNatClampNeg v3)) &&& 63) = 17 → ¬ ((xs (Int32.toNatClampNeg v3)) &&& 63) = 18 → ¬ ((xs (Int32.toNatClampNeg v3)) &&& 63) = 19 → ¬ ((xs (Int32.toNatClampNeg v3)) &&& 63) = 20 → ¬ ((xs (Int32.toNatClampNeg v3)) &&& 63) = 21 → ¬ ((xs (Int32.toNatClampNeg v3)) &&& 63) = 22 → ¬ ((xs (Int32.toNatClampNeg v3)) &&& 63) = 23 → ¬ ((xs (Int32.toNatClampNeg v3)) &&& 63) = 24 → ¬ ((xs (Int32.toNatClampNeg v3)) &&& 63) = 25 → ¬ ((xs (Int32.toNatClampNeg v3)) &&& 63) = 26 → ¬ ((xs (Int32.toNatClampNeg v3)) &&& 63) = 27 → ¬ ((xs (Int32.toNatClampNeg v3)) &&& 63) = 28 → ¬ ((xs (Int32.toNatClampNeg v3)) &&& 63) = 29 → ¬ ((xs (Int32.toNatClampNeg v3)) &&& 63) = 30 → ¬ ((xs (Int32.toNatClampNeg v3)) &&& 63) = 31 → ¬ ((xs (Int32.toNatClampNeg v3)) &&& 63) = 32 → ¬ ((xs (Int32.toNatClampNeg v3)) &&& 63) = 33 → ¬ ((xs (Int32.toNatClampNeg v3)) &&& 63) = 34 → ¬ ((xs (Int32.toNatClampNeg v3)) &&& 63) = 35 → ¬ ((xs (Int32.toNatClampNeg v3)) &&& 63) = 36 → ¬ ((xs (Int32.toNatClampNeg v3)) &&& 63) = 37 → ¬ ((xs (Int32.toNatClampNeg v3)) &&& 63) = 38 → ¬ ((xs (Int32.toNatClampNeg v3)) &&& 63) = 39 → ¬ ((xs (Int32.toNatClampNeg v3)) &&& 63) = 40 → ¬ ((xs (Int32.toNatClampNeg v3)) &&& 63) = 41 → ¬ ((xs (Int32.toNatClampNeg v3)) &&& 63) = 42 → ¬ ((xs (Int32.toNatClampNeg v3)) &&& 63) = 43 → ¬ ((xs (Int32.toNatClampNeg v3)) &&& 63) = 44 → ¬ ((xs (Int32.toNatClampNeg v3)) &&& 63) = 45 → ¬ ((xs (Int32.toNatClampNeg v3)) &&& 63) = 46 → ¬ ((xs (Int32.toNatClampNeg v3)) &&& 63) = 47 → ¬ ((xs (Int32.toNatClampNeg v3)) &&& 63) = 48 → ¬ ((xs (Int32.toNatClampNeg v3)) &&& 63) = 49 → ¬ ((xs (Int32.toNatClampNeg v3)) &&& 63) = 50 → G X d 295 1735 [some (.ref 999), some (.ref 0), some (.ref 84), some (.int v3)] [] h) : G X d 295 26 [some (.ref 999), some (.ref 0), some (.ref 84), some (.int v3)] [] h := by
  refine g_aload_n d_295_26 rfl rfl ?_
  refine g_iload_n d_295_27 rfl rfl ?_
  refine g_sld hX d_295_28 b0 ?_
  refine g_bipush (v := 63) d_295_29 (by decide) ?_
  refine g_iand d_295_31 ?_
  exact g_table (tls := [(0, 252), (1, 305), (2, 338), (3, 381), (4, 414), (5, 447), (6, 490), (7, 523), (8, 546), (9, 559), (10, 582), (11, 645), (12, 658), (13, 671), (14, 694), (15, 717), (16, 740), (17, 763), (18, 786), (19, 809), (20, 832), (21, 855), (22, 878), (23, 911), (24, 934), (25, 967), (26, 1000), (27, 1023), (28, 1046), (29, 1099), (30, 1112), (31, 1135), (32, 1148), (33, 1171), (34, 1184), (35, 1217), (36, 1240), (37, 1273), (38, 1316), (39, 1329), (40, 1372), (41, 1415), (42, 1458), (43, 1501), (44, 1544), (45, 1587), (46, 1620), (47, 1663), (48, 1686), (49, 1709), (50, 1722)]) (df := 1735) d_295_32 (by decide +kernel) ⟨fun q => k0 q, fun n0 => ⟨fun q => k1 q, fun n1 => ⟨fun q => k2 q, fun n2 => ⟨fun q => k3 q, fun n3 => ⟨fun q => k4 q, fun n4 => ⟨fun q => k5 q, fun n5 => ⟨fun q => k6 q, fun n6 => ⟨fun q => k7 q, fun n7 => ⟨fun q => k8 q, fun n8 => ⟨fun q => k9 q, fun n9 => ⟨fun q => k10 q, fun n10 => ⟨fun q => k11 q, fun n11 => ⟨fun q => k12 q, fun n12 => ⟨fun q => k13 q, fun n13 => ⟨fun q => k14 q, fun n14 => ⟨fun q => k15 q, fun n15 => ⟨fun q => k16 q, fun n16 => ⟨fun q => k17 q, fun n17 => ⟨fun q => k18 q, fun n18 => ⟨fun q => k19 q, fun n19 => ⟨fun q => k20 q, fun n20 => ⟨fun q => k21 q, fun n21 => ⟨fun q => k22 q, fun n22 => ⟨fun q => k23 q, fun n23 => ⟨fun q => k24 q, fun n24 => ⟨fun q => k25 q, fun n25 => ⟨fun q => k26 q, fun n26 => ⟨fun q => k27 q, fun n27 => ⟨fun q => k28 q, fun n28 => ⟨fun q => k29 q, fun n29 => ⟨fun q => k30 q, fun n30 => ⟨fun q => k31 q, fun n31 => ⟨fun q => k32 q, fun n32 => ⟨fun q => k33 q, fun n33 => ⟨fun q => k34 q, fun n34 => ⟨fun q => k35 q, fun n35 => ⟨fun q => k36 q, fun n36 => ⟨fun q => k37 q, fun n37 => ⟨fun q => k38 q, fun n38 => ⟨fun q => k39 q, fun n39 => ⟨fun q => k40 q, fun n40 => ⟨fun q => k41 q, fun n41 => ⟨fun q => k42 q, fun n42 => ⟨fun q => k43 q, fun n43 => ⟨fun q => k44 q, fun n44 => ⟨fun q => k45 q, fun n45 => ⟨fun q => k46 q, fun n46 => ⟨fun q => k47 q, fun n47 => ⟨fun q => k48 q, fun n48 => ⟨fun q => k49 q, fun n49 => ⟨fun q => k50 q, fun n50 => (kd n0 n1 n2 n3 n4 n5 n6 n7 n8 n9 n10 n11 n12 n13 n14 n15 n16 n17 n18 n19 n20 n21 n22 n23 n24 n25 n26 n27 n28 n29 n30 n31 n32 n33 n34 n35 n36 n37 n38 n39 n40 n41 n42 n43 n44 n45 n46 n47 n48 n49 n50)⟩⟩⟩⟩⟩⟩⟩⟩⟩⟩⟩⟩⟩⟩⟩⟩⟩⟩⟩⟩⟩⟩⟩⟩⟩⟩⟩⟩⟩⟩⟩⟩⟩⟩⟩⟩⟩⟩⟩⟩⟩⟩⟩⟩⟩⟩⟩⟩⟩⟩⟩

theorem k_295_252 {X : GX} {d : Nat} {h : Hp} {v3 : Int32} {L : Nat} {xs : Nat → Int32} (hX : X.2.2.2.2 = some (L, xs)) {d' : Nat} {Q' : Int32 → Hp → Prop} (b0 : vp_in (v3 + 1) L) (b1 : vp_in (v3 + 2) L) (b2 : vp_in (v3 + 3) L) (b3 : vp_in (v3 + 4) L) (hdd : d' < d) (hC : CI d' 10 [.ref 0, .int (xs (Int32.toNatClampNeg (v3 + 1))), .int (xs (Int32.toNatClampNeg (v3 + 2))), .int (xs (Int32.toNatClampNeg (v3 + 3))), .int (xs (Int32.toNatClampNeg (v3 + 4)))] h Q') (kk : ∀ x h', Q' x h' → G X d 295 276 [some (.ref 999), some (.ref 0), some (.ref 84), some (.int v3)] [.int x] h') : G X d 295 252 [some (.ref 999), some (.ref 0), some (.ref 84), some (.int v3)] [] h := by
  refine g_aload_n d_295_252 rfl rfl ?_
  refine g_aload_n d_295_253 rfl rfl ?_
  refine g_iload_n d_295_254 rfl rfl ?_
  refine g_iconst (v := 1) d_295_255 (by decide) ?_
  refine g_iadd d_295_256 ?_
  refine g_sld hX d_295_257 b0 ?_
  refine g_aload_n d_295_258 rfl rfl ?_
  refine g_iload_n d_295_259 rfl rfl ?_
  refine g_iconst (v := 2) d_295_260 (by decide) ?_
  refine g_iadd d_295_261 ?_
  refine g_sld hX d_295_262 b1 ?_
  refine g_aload_n d_295_263 rfl rfl ?_
  refine g_iload_n d_295_264 rfl rfl ?_
  refine g_iconst (v := 3) d_295_265 (by decide) ?_
  refine g_iadd d_295_266 ?_
  refine g_sld hX d_295_267 b2 ?_
  refine g_aload_n d_295_268 rfl rfl ?_
  refine g_iload_n d_295_269 rfl rfl ?_
  refine g_iconst (v := 4) d_295_270 (by decide) ?_
  refine g_iadd d_295_271 ?_
  refine g_sld hX d_295_272 b3 ?_
  exact g_callVI (mj := 10) 8 [.int (xs (Int32.toNatClampNeg (v3 + 1))), .int (xs (Int32.toNatClampNeg (v3 + 2))), .int (xs (Int32.toNatClampNeg (v3 + 3))), .int (xs (Int32.toNatClampNeg (v3 + 4)))] [] d_295_273 wd_142 mo_10 mc_10 mv_10 rfl rfl rfl (Nat.le_of_ble_eq_true rfl) rfl hdd hC kk

theorem k_295_276 {X : GX} {d : Nat} {h : Hp} {v3 : Int32} {s0 : Int32} {L : Nat} {xs : Nat → Int32} (hX : X.2.2.2.2 = some (L, xs)) {d' : Nat} {Q' : Int32 → Hp → Prop} (b0 : vp_in (v3 + 1) L) (b1 : vp_in (v3 + 2) L) (b2 : vp_in (v3 + 3) L) (b3 : vp_in (v3 + 4) L) (hdd : d' < d) (hC : CI d' 176 [.ref 84, .int (xs (Int32.toNatClampNeg (v3 + 1))), .int (xs (Int32.toNatClampNeg (v3 + 2))), .int (xs (Int32.toNatClampNeg (v3 + 3))), .int (xs (Int32.toNatClampNeg (v3 + 4)))] h Q') (kk : ∀ x h', Q' x h' → G X d 295 300 [some (.ref 999), some (.ref 0), some (.ref 84), some (.int v3)] [.int x, .int s0] h') : G X d 295 276 [some (.ref 999), some (.ref 0), some (.ref 84), some (.int v3)] [.int s0] h := by
  refine g_aload_n d_295_276 rfl rfl ?_
  refine g_aload_n d_295_277 rfl rfl ?_
  refine g_iload_n d_295_278 rfl rfl ?_
  refine g_iconst (v := 1) d_295_279 (by decide) ?_
  refine g_iadd d_295_280 ?_
  refine g_sld hX d_295_281 b0 ?_
  refine g_aload_n d_295_282 rfl rfl ?_
  refine g_iload_n d_295_283 rfl rfl ?_
  refine g_iconst (v := 2) d_295_284 (by decide) ?_
  refine g_iadd d_295_285 ?_
  refine g_sld hX d_295_286 b1 ?_
  refine g_aload_n d_295_287 rfl rfl ?_
  refine g_iload_n d_295_288 rfl rfl ?_
  refine g_iconst (v := 3) d_295_289 (by decide) ?_
  refine g_iadd d_295_290 ?_
  refine g_sld hX d_295_291 b2 ?_
  refine g_aload_n d_295_292 rfl rfl ?_
  refine g_iload_n d_295_293 rfl rfl ?_
  refine g_iconst (v := 4) d_295_294 (by decide) ?_
  refine g_iadd d_295_295 ?_
  refine g_sld hX d_295_296 b3 ?_
  exact g_callVI (mj := 176) 9 [.int (xs (Int32.toNatClampNeg (v3 + 1))), .int (xs (Int32.toNatClampNeg (v3 + 2))), .int (xs (Int32.toNatClampNeg (v3 + 3))), .int (xs (Int32.toNatClampNeg (v3 + 4)))] [.int s0] d_295_297 wd_393 mo_176 mc_176 mv_176 rfl rfl rfl (Nat.le_of_ble_eq_true rfl) rfl hdd hC kk

theorem k_295_300 {X : GX} {d : Nat} {h : Hp} {v3 : Int32} {s0 : Int32} {s1 : Int32} {L : Nat} {xs : Nat → Int32} (hX : X.2.2.2.2 = some (L, xs)) (kt : s1 = s0 → G X d 295 1735 [some (.ref 999), some (.ref 0), some (.ref 84), some (.int v3)] [] h) (kf : ¬ s1 = s0 → G X d 295 303 [none, none, none, none] [] h) : G X d 295 300 [some (.ref 999), some (.ref 0), some (.ref 84), some (.int v3)] [.int s0, .int s1] h := by
  exact g_icmp_eq (tgt := 1735) d_295_300 (by decide) kt (fun q => g_mask [false, false, false, false] (kf q))

theorem k_295_303 {X : GX} {d : Nat} {h : Hp} {L : Nat} {xs : Nat → Int32} (hX : X.2.2.2.2 = some (L, xs)) (hq : RtX X (some (.int 0)) h) : G X d 295 303 [none, none, none, none] [] h := by
  refine g_iconst (v := 0) d_295_303 (by decide) ?_
  exact g_retz d_295_304 rfl z01_0 hq

theorem k_295_305 {X : GX} {d : Nat} {h : Hp} {v3 : Int32} {L : Nat} {xs : Nat → Int32} (hX : X.2.2.2.2 = some (L, xs)) {d' : Nat} {Q' : Int32 → Hp → Prop} (b0 : vp_in (v3 + 1) L) (b1 : vp_in (v3 + 2) L) (hdd : d' < d) (hC : CI d' 13 [.ref 0, .int (xs (Int32.toNatClampNeg (v3 + 1))), .int (xs (Int32.toNatClampNeg (v3 + 2)))] h Q') (kk : ∀ x h', Q' x h' → G X d 295 319 [some (.ref 999), some (.ref 0), some (.ref 84), some (.int v3)] [.int x] h') : G X d 295 305 [some (.ref 999), some (.ref 0), some (.ref 84), some (.int v3)] [] h := by
  refine g_aload_n d_295_305 rfl rfl ?_
  refine g_aload_n d_295_306 rfl rfl ?_
  refine g_iload_n d_295_307 rfl rfl ?_
  refine g_iconst (v := 1) d_295_308 (by decide) ?_
  refine g_iadd d_295_309 ?_
  refine g_sld hX d_295_310 b0 ?_
  refine g_aload_n d_295_311 rfl rfl ?_
  refine g_iload_n d_295_312 rfl rfl ?_
  refine g_iconst (v := 2) d_295_313 (by decide) ?_
  refine g_iadd d_295_314 ?_
  refine g_sld hX d_295_315 b1 ?_
  exact g_callVI (mj := 13) 8 [.int (xs (Int32.toNatClampNeg (v3 + 1))), .int (xs (Int32.toNatClampNeg (v3 + 2)))] [] d_295_316 wd_145 mo_13 mc_13 mv_13 rfl rfl rfl (Nat.le_of_ble_eq_true rfl) rfl hdd hC kk

theorem k_295_319 {X : GX} {d : Nat} {h : Hp} {v3 : Int32} {s0 : Int32} {L : Nat} {xs : Nat → Int32} (hX : X.2.2.2.2 = some (L, xs)) {d' : Nat} {Q' : Int32 → Hp → Prop} (b0 : vp_in (v3 + 1) L) (b1 : vp_in (v3 + 2) L) (hdd : d' < d) (hC : CI d' 179 [.ref 84, .int (xs (Int32.toNatClampNeg (v3 + 1))), .int (xs (Int32.toNatClampNeg (v3 + 2)))] h Q') (kk : ∀ x h', Q' x h' → G X d 295 333 [some (.ref 999), some (.ref 0), some (.ref 84), some (.int v3)] [.int x, .int s0] h') : G X d 295 319 [some (.ref 999), some (.ref 0), some (.ref 84), some (.int v3)] [.int s0] h := by
  refine g_aload_n d_295_319 rfl rfl ?_
  refine g_aload_n d_295_320 rfl rfl ?_
  refine g_iload_n d_295_321 rfl rfl ?_
  refine g_iconst (v := 1) d_295_322 (by decide) ?_
  refine g_iadd d_295_323 ?_
  refine g_sld hX d_295_324 b0 ?_
  refine g_aload_n d_295_325 rfl rfl ?_
  refine g_iload_n d_295_326 rfl rfl ?_
  refine g_iconst (v := 2) d_295_327 (by decide) ?_
  refine g_iadd d_295_328 ?_
  refine g_sld hX d_295_329 b1 ?_
  exact g_callVI (mj := 179) 9 [.int (xs (Int32.toNatClampNeg (v3 + 1))), .int (xs (Int32.toNatClampNeg (v3 + 2)))] [.int s0] d_295_330 wd_399 mo_179 mc_179 mv_179 rfl rfl rfl (Nat.le_of_ble_eq_true rfl) rfl hdd hC kk

theorem k_295_333 {X : GX} {d : Nat} {h : Hp} {v3 : Int32} {s0 : Int32} {s1 : Int32} {L : Nat} {xs : Nat → Int32} (hX : X.2.2.2.2 = some (L, xs)) (kt : s1 = s0 → G X d 295 1735 [some (.ref 999), some (.ref 0), some (.ref 84), some (.int v3)] [] h) (kf : ¬ s1 = s0 → G X d 295 336 [none, none, none, none] [] h) : G X d 295 333 [some (.ref 999), some (.ref 0), some (.ref 84), some (.int v3)] [.int s0, .int s1] h := by
  exact g_icmp_eq (tgt := 1735) d_295_333 (by decide) kt (fun q => g_mask [false, false, false, false] (kf q))

theorem k_295_336 {X : GX} {d : Nat} {h : Hp} {L : Nat} {xs : Nat → Int32} (hX : X.2.2.2.2 = some (L, xs)) (hq : RtX X (some (.int 0)) h) : G X d 295 336 [none, none, none, none] [] h := by
  refine g_iconst (v := 0) d_295_336 (by decide) ?_
  exact g_retz d_295_337 rfl z01_0 hq

theorem k_295_338 {X : GX} {d : Nat} {h : Hp} {v3 : Int32} {L : Nat} {xs : Nat → Int32} (hX : X.2.2.2.2 = some (L, xs)) {d' : Nat} {Q' : Int32 → Hp → Prop} (b0 : vp_in (v3 + 1) L) (b1 : vp_in (v3 + 2) L) (b2 : vp_in (v3 + 3) L) (hdd : d' < d) (hC : CI d' 28 [.ref 0, .int (xs (Int32.toNatClampNeg (v3 + 1))), .int (xs (Int32.toNatClampNeg (v3 + 2))), .int (xs (Int32.toNatClampNeg (v3 + 3)))] h Q') (kk : ∀ x h', Q' x h' → G X d 295 357 [some (.ref 999), some (.ref 0), some (.ref 84), some (.int v3)] [.int x] h') : G X d 295 338 [some (.ref 999), some (.ref 0), some (.ref 84), some (.int v3)] [] h := by
  refine g_aload_n d_295_338 rfl rfl ?_
  refine g_aload_n d_295_339 rfl rfl ?_
  refine g_iload_n d_295_340 rfl rfl ?_
  refine g_iconst (v := 1) d_295_341 (by decide) ?_
  refine g_iadd d_295_342 ?_
  refine g_sld hX d_295_343 b0 ?_
  refine g_aload_n d_295_344 rfl rfl ?_
  refine g_iload_n d_295_345 rfl rfl ?_
  refine g_iconst (v := 2) d_295_346 (by decide) ?_
  refine g_iadd d_295_347 ?_
  refine g_sld hX d_295_348 b1 ?_
  refine g_aload_n d_295_349 rfl rfl ?_
  refine g_iload_n d_295_350 rfl rfl ?_
  refine g_iconst (v := 3) d_295_351 (by decide) ?_
  refine g_iadd d_295_352 ?_
  refine g_sld hX d_295_353 b2 ?_
  exact g_callVI (mj := 28) 8 [.int (xs (Int32.toNatClampNeg (v3 + 1))), .int (xs (Int32.toNatClampNeg (v3 + 2))), .int (xs (Int32.toNatClampNeg (v3 + 3)))] [] d_295_354 wd_165 mo_28 mc_28 mv_28 rfl rfl rfl (Nat.le_of_ble_eq_true rfl) rfl hdd hC kk

theorem k_295_357 {X : GX} {d : Nat} {h : Hp} {v3 : Int32} {s0 : Int32} {L : Nat} {xs : Nat → Int32} (hX : X.2.2.2.2 = some (L, xs)) {d' : Nat} {Q' : Int32 → Hp → Prop} (b0 : vp_in (v3 + 1) L) (b1 : vp_in (v3 + 2) L) (b2 : vp_in (v3 + 3) L) (hdd : d' < d) (hC : CI d' 196 [.ref 84, .int (xs (Int32.toNatClampNeg (v3 + 1))), .int (xs (Int32.toNatClampNeg (v3 + 2))), .int (xs (Int32.toNatClampNeg (v3 + 3)))] h Q') (kk : ∀ x h', Q' x h' → G X d 295 376 [some (.ref 999), some (.ref 0), some (.ref 84), some (.int v3)] [.int x, .int s0] h') : G X d 295 357 [some (.ref 999), some (.ref 0), some (.ref 84), some (.int v3)] [.int s0] h := by
  refine g_aload_n d_295_357 rfl rfl ?_
  refine g_aload_n d_295_358 rfl rfl ?_
  refine g_iload_n d_295_359 rfl rfl ?_
  refine g_iconst (v := 1) d_295_360 (by decide) ?_
  refine g_iadd d_295_361 ?_
  refine g_sld hX d_295_362 b0 ?_
  refine g_aload_n d_295_363 rfl rfl ?_
  refine g_iload_n d_295_364 rfl rfl ?_
  refine g_iconst (v := 2) d_295_365 (by decide) ?_
  refine g_iadd d_295_366 ?_
  refine g_sld hX d_295_367 b1 ?_
  refine g_aload_n d_295_368 rfl rfl ?_
  refine g_iload_n d_295_369 rfl rfl ?_
  refine g_iconst (v := 3) d_295_370 (by decide) ?_
  refine g_iadd d_295_371 ?_
  refine g_sld hX d_295_372 b2 ?_
  exact g_callVI (mj := 196) 9 [.int (xs (Int32.toNatClampNeg (v3 + 1))), .int (xs (Int32.toNatClampNeg (v3 + 2))), .int (xs (Int32.toNatClampNeg (v3 + 3)))] [.int s0] d_295_373 wd_416 mo_196 mc_196 mv_196 rfl rfl rfl (Nat.le_of_ble_eq_true rfl) rfl hdd hC kk

theorem k_295_376 {X : GX} {d : Nat} {h : Hp} {v3 : Int32} {s0 : Int32} {s1 : Int32} {L : Nat} {xs : Nat → Int32} (hX : X.2.2.2.2 = some (L, xs)) (kt : s1 = s0 → G X d 295 1735 [some (.ref 999), some (.ref 0), some (.ref 84), some (.int v3)] [] h) (kf : ¬ s1 = s0 → G X d 295 379 [none, none, none, none] [] h) : G X d 295 376 [some (.ref 999), some (.ref 0), some (.ref 84), some (.int v3)] [.int s0, .int s1] h := by
  exact g_icmp_eq (tgt := 1735) d_295_376 (by decide) kt (fun q => g_mask [false, false, false, false] (kf q))

theorem k_295_379 {X : GX} {d : Nat} {h : Hp} {L : Nat} {xs : Nat → Int32} (hX : X.2.2.2.2 = some (L, xs)) (hq : RtX X (some (.int 0)) h) : G X d 295 379 [none, none, none, none] [] h := by
  refine g_iconst (v := 0) d_295_379 (by decide) ?_
  exact g_retz d_295_380 rfl z01_0 hq

theorem k_295_381 {X : GX} {d : Nat} {h : Hp} {v3 : Int32} {L : Nat} {xs : Nat → Int32} (hX : X.2.2.2.2 = some (L, xs)) {d' : Nat} {Q' : Int32 → Hp → Prop} (b0 : vp_in (v3 + 1) L) (b1 : vp_in (v3 + 2) L) (hdd : d' < d) (hC : CI d' 31 [.ref 0, .int (xs (Int32.toNatClampNeg (v3 + 1))), .int (xs (Int32.toNatClampNeg (v3 + 2)))] h Q') (kk : ∀ x h', Q' x h' → G X d 295 395 [some (.ref 999), some (.ref 0), some (.ref 84), some (.int v3)] [.int x] h') : G X d 295 381 [some (.ref 999), some (.ref 0), some (.ref 84), some (.int v3)] [] h := by
  refine g_aload_n d_295_381 rfl rfl ?_
  refine g_aload_n d_295_382 rfl rfl ?_
  refine g_iload_n d_295_383 rfl rfl ?_
  refine g_iconst (v := 1) d_295_384 (by decide) ?_
  refine g_iadd d_295_385 ?_
  refine g_sld hX d_295_386 b0 ?_
  refine g_aload_n d_295_387 rfl rfl ?_
  refine g_iload_n d_295_388 rfl rfl ?_
  refine g_iconst (v := 2) d_295_389 (by decide) ?_
  refine g_iadd d_295_390 ?_
  refine g_sld hX d_295_391 b1 ?_
  exact g_callVI (mj := 31) 8 [.int (xs (Int32.toNatClampNeg (v3 + 1))), .int (xs (Int32.toNatClampNeg (v3 + 2)))] [] d_295_392 wd_168 mo_31 mc_31 mv_31 rfl rfl rfl (Nat.le_of_ble_eq_true rfl) rfl hdd hC kk

theorem k_295_395 {X : GX} {d : Nat} {h : Hp} {v3 : Int32} {s0 : Int32} {L : Nat} {xs : Nat → Int32} (hX : X.2.2.2.2 = some (L, xs)) {d' : Nat} {Q' : Int32 → Hp → Prop} (b0 : vp_in (v3 + 1) L) (b1 : vp_in (v3 + 2) L) (hdd : d' < d) (hC : CI d' 198 [.ref 84, .int (xs (Int32.toNatClampNeg (v3 + 1))), .int (xs (Int32.toNatClampNeg (v3 + 2)))] h Q') (kk : ∀ x h', Q' x h' → G X d 295 409 [some (.ref 999), some (.ref 0), some (.ref 84), some (.int v3)] [.int x, .int s0] h') : G X d 295 395 [some (.ref 999), some (.ref 0), some (.ref 84), some (.int v3)] [.int s0] h := by
  refine g_aload_n d_295_395 rfl rfl ?_
  refine g_aload_n d_295_396 rfl rfl ?_
  refine g_iload_n d_295_397 rfl rfl ?_
  refine g_iconst (v := 1) d_295_398 (by decide) ?_
  refine g_iadd d_295_399 ?_
  refine g_sld hX d_295_400 b0 ?_
  refine g_aload_n d_295_401 rfl rfl ?_
  refine g_iload_n d_295_402 rfl rfl ?_
  refine g_iconst (v := 2) d_295_403 (by decide) ?_
  refine g_iadd d_295_404 ?_
  refine g_sld hX d_295_405 b1 ?_
  exact g_callVI (mj := 198) 9 [.int (xs (Int32.toNatClampNeg (v3 + 1))), .int (xs (Int32.toNatClampNeg (v3 + 2)))] [.int s0] d_295_406 wd_418 mo_198 mc_198 mv_198 rfl rfl rfl (Nat.le_of_ble_eq_true rfl) rfl hdd hC kk

theorem k_295_409 {X : GX} {d : Nat} {h : Hp} {v3 : Int32} {s0 : Int32} {s1 : Int32} {L : Nat} {xs : Nat → Int32} (hX : X.2.2.2.2 = some (L, xs)) (kt : s1 = s0 → G X d 295 1735 [some (.ref 999), some (.ref 0), some (.ref 84), some (.int v3)] [] h) (kf : ¬ s1 = s0 → G X d 295 412 [none, none, none, none] [] h) : G X d 295 409 [some (.ref 999), some (.ref 0), some (.ref 84), some (.int v3)] [.int s0, .int s1] h := by
  exact g_icmp_eq (tgt := 1735) d_295_409 (by decide) kt (fun q => g_mask [false, false, false, false] (kf q))

theorem k_295_412 {X : GX} {d : Nat} {h : Hp} {L : Nat} {xs : Nat → Int32} (hX : X.2.2.2.2 = some (L, xs)) (hq : RtX X (some (.int 0)) h) : G X d 295 412 [none, none, none, none] [] h := by
  refine g_iconst (v := 0) d_295_412 (by decide) ?_
  exact g_retz d_295_413 rfl z01_0 hq

theorem k_295_414 {X : GX} {d : Nat} {h : Hp} {v3 : Int32} {L : Nat} {xs : Nat → Int32} (hX : X.2.2.2.2 = some (L, xs)) {d' : Nat} {Q' : Int32 → Hp → Prop} (b0 : vp_in (v3 + 1) L) (b1 : vp_in (v3 + 2) L) (hdd : d' < d) (hC : CI d' 32 [.ref 0, .int (xs (Int32.toNatClampNeg (v3 + 1))), .int (xs (Int32.toNatClampNeg (v3 + 2)))] h Q') (kk : ∀ x h', Q' x h' → G X d 295 428 [some (.ref 999), some (.ref 0), some (.ref 84), some (.int v3)] [.int x] h') : G X d 295 414 [some (.ref 999), some (.ref 0), some (.ref 84), some (.int v3)] [] h := by
  refine g_aload_n d_295_414 rfl rfl ?_
  refine g_aload_n d_295_415 rfl rfl ?_
  refine g_iload_n d_295_416 rfl rfl ?_
  refine g_iconst (v := 1) d_295_417 (by decide) ?_
  refine g_iadd d_295_418 ?_
  refine g_sld hX d_295_419 b0 ?_
  refine g_aload_n d_295_420 rfl rfl ?_
  refine g_iload_n d_295_421 rfl rfl ?_
  refine g_iconst (v := 2) d_295_422 (by decide) ?_
  refine g_iadd d_295_423 ?_
  refine g_sld hX d_295_424 b1 ?_
  exact g_callVI (mj := 32) 8 [.int (xs (Int32.toNatClampNeg (v3 + 1))), .int (xs (Int32.toNatClampNeg (v3 + 2)))] [] d_295_425 wd_169 mo_32 mc_32 mv_32 rfl rfl rfl (Nat.le_of_ble_eq_true rfl) rfl hdd hC kk

theorem k_295_428 {X : GX} {d : Nat} {h : Hp} {v3 : Int32} {s0 : Int32} {L : Nat} {xs : Nat → Int32} (hX : X.2.2.2.2 = some (L, xs)) {d' : Nat} {Q' : Int32 → Hp → Prop} (b0 : vp_in (v3 + 1) L) (b1 : vp_in (v3 + 2) L) (hdd : d' < d) (hC : CI d' 199 [.ref 84, .int (xs (Int32.toNatClampNeg (v3 + 1))), .int (xs (Int32.toNatClampNeg (v3 + 2)))] h Q') (kk : ∀ x h', Q' x h' → G X d 295 442 [some (.ref 999), some (.ref 0), some (.ref 84), some (.int v3)] [.int x, .int s0] h') : G X d 295 428 [some (.ref 999), some (.ref 0), some (.ref 84), some (.int v3)] [.int s0] h := by
  refine g_aload_n d_295_428 rfl rfl ?_
  refine g_aload_n d_295_429 rfl rfl ?_
  refine g_iload_n d_295_430 rfl rfl ?_
  refine g_iconst (v := 1) d_295_431 (by decide) ?_
  refine g_iadd d_295_432 ?_
  refine g_sld hX d_295_433 b0 ?_
  refine g_aload_n d_295_434 rfl rfl ?_
  refine g_iload_n d_295_435 rfl rfl ?_
  refine g_iconst (v := 2) d_295_436 (by decide) ?_
  refine g_iadd d_295_437 ?_
  refine g_sld hX d_295_438 b1 ?_
  exact g_callVI (mj := 199) 9 [.int (xs (Int32.toNatClampNeg (v3 + 1))), .int (xs (Int32.toNatClampNeg (v3 + 2)))] [.int s0] d_295_439 wd_419 mo_199 mc_199 mv_199 rfl rfl rfl (Nat.le_of_ble_eq_true rfl) rfl hdd hC kk

theorem k_295_442 {X : GX} {d : Nat} {h : Hp} {v3 : Int32} {s0 : Int32} {s1 : Int32} {L : Nat} {xs : Nat → Int32} (hX : X.2.2.2.2 = some (L, xs)) (kt : s1 = s0 → G X d 295 1735 [some (.ref 999), some (.ref 0), some (.ref 84), some (.int v3)] [] h) (kf : ¬ s1 = s0 → G X d 295 445 [none, none, none, none] [] h) : G X d 295 442 [some (.ref 999), some (.ref 0), some (.ref 84), some (.int v3)] [.int s0, .int s1] h := by
  exact g_icmp_eq (tgt := 1735) d_295_442 (by decide) kt (fun q => g_mask [false, false, false, false] (kf q))

theorem k_295_445 {X : GX} {d : Nat} {h : Hp} {L : Nat} {xs : Nat → Int32} (hX : X.2.2.2.2 = some (L, xs)) (hq : RtX X (some (.int 0)) h) : G X d 295 445 [none, none, none, none] [] h := by
  refine g_iconst (v := 0) d_295_445 (by decide) ?_
  exact g_retz d_295_446 rfl z01_0 hq

theorem k_295_447 {X : GX} {d : Nat} {h : Hp} {v3 : Int32} {L : Nat} {xs : Nat → Int32} (hX : X.2.2.2.2 = some (L, xs)) {d' : Nat} {Q' : Int32 → Hp → Prop} (b0 : vp_in (v3 + 1) L) (b1 : vp_in (v3 + 2) L) (b2 : vp_in (v3 + 3) L) (hdd : d' < d) (hC : CI d' 33 [.ref 0, .int (xs (Int32.toNatClampNeg (v3 + 1))), .int (xs (Int32.toNatClampNeg (v3 + 2))), .int (xs (Int32.toNatClampNeg (v3 + 3)))] h Q') (kk : ∀ x h', Q' x h' → G X d 295 466 [some (.ref 999), some (.ref 0), some (.ref 84), some (.int v3)] [.int x] h') : G X d 295 447 [some (.ref 999), some (.ref 0), some (.ref 84), some (.int v3)] [] h := by
  refine g_aload_n d_295_447 rfl rfl ?_
  refine g_aload_n d_295_448 rfl rfl ?_
  refine g_iload_n d_295_449 rfl rfl ?_
  refine g_iconst (v := 1) d_295_450 (by decide) ?_
  refine g_iadd d_295_451 ?_
  refine g_sld hX d_295_452 b0 ?_
  refine g_aload_n d_295_453 rfl rfl ?_
  refine g_iload_n d_295_454 rfl rfl ?_
  refine g_iconst (v := 2) d_295_455 (by decide) ?_
  refine g_iadd d_295_456 ?_
  refine g_sld hX d_295_457 b1 ?_
  refine g_aload_n d_295_458 rfl rfl ?_
  refine g_iload_n d_295_459 rfl rfl ?_
  refine g_iconst (v := 3) d_295_460 (by decide) ?_
  refine g_iadd d_295_461 ?_
  refine g_sld hX d_295_462 b2 ?_
  exact g_callVI (mj := 33) 8 [.int (xs (Int32.toNatClampNeg (v3 + 1))), .int (xs (Int32.toNatClampNeg (v3 + 2))), .int (xs (Int32.toNatClampNeg (v3 + 3)))] [] d_295_463 wd_170 mo_33 mc_33 mv_33 rfl rfl rfl (Nat.le_of_ble_eq_true rfl) rfl hdd hC kk

theorem k_295_466 {X : GX} {d : Nat} {h : Hp} {v3 : Int32} {s0 : Int32} {L : Nat} {xs : Nat → Int32} (hX : X.2.2.2.2 = some (L, xs)) {d' : Nat} {Q' : Int32 → Hp → Prop} (b0 : vp_in (v3 + 1) L) (b1 : vp_in (v3 + 2) L) (b2 : vp_in (v3 + 3) L) (hdd : d' < d) (hC : CI d' 200 [.ref 84, .int (xs (Int32.toNatClampNeg (v3 + 1))), .int (xs (Int32.toNatClampNeg (v3 + 2))), .int (xs (Int32.toNatClampNeg (v3 + 3)))] h Q') (kk : ∀ x h', Q' x h' → G X d 295 485 [some (.ref 999), some (.ref 0), some (.ref 84), some (.int v3)] [.int x, .int s0] h') : G X d 295 466 [some (.ref 999), some (.ref 0), some (.ref 84), some (.int v3)] [.int s0] h := by
  refine g_aload_n d_295_466 rfl rfl ?_
  refine g_aload_n d_295_467 rfl rfl ?_
  refine g_iload_n d_295_468 rfl rfl ?_
  refine g_iconst (v := 1) d_295_469 (by decide) ?_
  refine g_iadd d_295_470 ?_
  refine g_sld hX d_295_471 b0 ?_
  refine g_aload_n d_295_472 rfl rfl ?_
  refine g_iload_n d_295_473 rfl rfl ?_
  refine g_iconst (v := 2) d_295_474 (by decide) ?_
  refine g_iadd d_295_475 ?_
  refine g_sld hX d_295_476 b1 ?_
  refine g_aload_n d_295_477 rfl rfl ?_
  refine g_iload_n d_295_478 rfl rfl ?_
  refine g_iconst (v := 3) d_295_479 (by decide) ?_
  refine g_iadd d_295_480 ?_
  refine g_sld hX d_295_481 b2 ?_
  exact g_callVI (mj := 200) 9 [.int (xs (Int32.toNatClampNeg (v3 + 1))), .int (xs (Int32.toNatClampNeg (v3 + 2))), .int (xs (Int32.toNatClampNeg (v3 + 3)))] [.int s0] d_295_482 wd_421 mo_200 mc_200 mv_200 rfl rfl rfl (Nat.le_of_ble_eq_true rfl) rfl hdd hC kk

theorem k_295_485 {X : GX} {d : Nat} {h : Hp} {v3 : Int32} {s0 : Int32} {s1 : Int32} {L : Nat} {xs : Nat → Int32} (hX : X.2.2.2.2 = some (L, xs)) (kt : s1 = s0 → G X d 295 1735 [some (.ref 999), some (.ref 0), some (.ref 84), some (.int v3)] [] h) (kf : ¬ s1 = s0 → G X d 295 488 [none, none, none, none] [] h) : G X d 295 485 [some (.ref 999), some (.ref 0), some (.ref 84), some (.int v3)] [.int s0, .int s1] h := by
  exact g_icmp_eq (tgt := 1735) d_295_485 (by decide) kt (fun q => g_mask [false, false, false, false] (kf q))

theorem k_295_488 {X : GX} {d : Nat} {h : Hp} {L : Nat} {xs : Nat → Int32} (hX : X.2.2.2.2 = some (L, xs)) (hq : RtX X (some (.int 0)) h) : G X d 295 488 [none, none, none, none] [] h := by
  refine g_iconst (v := 0) d_295_488 (by decide) ?_
  exact g_retz d_295_489 rfl z01_0 hq

theorem k_295_490 {X : GX} {d : Nat} {h : Hp} {v3 : Int32} {L : Nat} {xs : Nat → Int32} (hX : X.2.2.2.2 = some (L, xs)) {d' : Nat} {Q' : Int32 → Hp → Prop} (b0 : vp_in (v3 + 1) L) (b1 : vp_in (v3 + 2) L) (hdd : d' < d) (hC : CI d' 34 [.ref 0, .int (xs (Int32.toNatClampNeg (v3 + 1))), .int (xs (Int32.toNatClampNeg (v3 + 2)))] h Q') (kk : ∀ x h', Q' x h' → G X d 295 504 [some (.ref 999), some (.ref 0), some (.ref 84), some (.int v3)] [.int x] h') : G X d 295 490 [some (.ref 999), some (.ref 0), some (.ref 84), some (.int v3)] [] h := by
  refine g_aload_n d_295_490 rfl rfl ?_
  refine g_aload_n d_295_491 rfl rfl ?_
  refine g_iload_n d_295_492 rfl rfl ?_
  refine g_iconst (v := 1) d_295_493 (by decide) ?_
  refine g_iadd d_295_494 ?_
  refine g_sld hX d_295_495 b0 ?_
  refine g_aload_n d_295_496 rfl rfl ?_
  refine g_iload_n d_295_497 rfl rfl ?_
  refine g_iconst (v := 2) d_295_498 (by decide) ?_
  refine g_iadd d_295_499 ?_
  refine g_sld hX d_295_500 b1 ?_
  exact g_callVI (mj := 34) 8 [.int (xs (Int32.toNatClampNeg (v3 + 1))), .int (xs (Int32.toNatClampNeg (v3 + 2)))] [] d_295_501 wd_171 mo_34 mc_34 mv_34 rfl rfl rfl (Nat.le_of_ble_eq_true rfl) rfl hdd hC kk

theorem k_295_504 {X : GX} {d : Nat} {h : Hp} {v3 : Int32} {s0 : Int32} {L : Nat} {xs : Nat → Int32} (hX : X.2.2.2.2 = some (L, xs)) {d' : Nat} {Q' : Int32 → Hp → Prop} (b0 : vp_in (v3 + 1) L) (b1 : vp_in (v3 + 2) L) (hdd : d' < d) (hC : CI d' 201 [.ref 84, .int (xs (Int32.toNatClampNeg (v3 + 1))), .int (xs (Int32.toNatClampNeg (v3 + 2)))] h Q') (kk : ∀ x h', Q' x h' → G X d 295 518 [some (.ref 999), some (.ref 0), some (.ref 84), some (.int v3)] [.int x, .int s0] h') : G X d 295 504 [some (.ref 999), some (.ref 0), some (.ref 84), some (.int v3)] [.int s0] h := by
  refine g_aload_n d_295_504 rfl rfl ?_
  refine g_aload_n d_295_505 rfl rfl ?_
  refine g_iload_n d_295_506 rfl rfl ?_
  refine g_iconst (v := 1) d_295_507 (by decide) ?_
  refine g_iadd d_295_508 ?_
  refine g_sld hX d_295_509 b0 ?_
  refine g_aload_n d_295_510 rfl rfl ?_
  refine g_iload_n d_295_511 rfl rfl ?_
  refine g_iconst (v := 2) d_295_512 (by decide) ?_
  refine g_iadd d_295_513 ?_
  refine g_sld hX d_295_514 b1 ?_
  exact g_callVI (mj := 201) 9 [.int (xs (Int32.toNatClampNeg (v3 + 1))), .int (xs (Int32.toNatClampNeg (v3 + 2)))] [.int s0] d_295_515 wd_422 mo_201 mc_201 mv_201 rfl rfl rfl (Nat.le_of_ble_eq_true rfl) rfl hdd hC kk

theorem k_295_518 {X : GX} {d : Nat} {h : Hp} {v3 : Int32} {s0 : Int32} {s1 : Int32} {L : Nat} {xs : Nat → Int32} (hX : X.2.2.2.2 = some (L, xs)) (kt : s1 = s0 → G X d 295 1735 [some (.ref 999), some (.ref 0), some (.ref 84), some (.int v3)] [] h) (kf : ¬ s1 = s0 → G X d 295 521 [none, none, none, none] [] h) : G X d 295 518 [some (.ref 999), some (.ref 0), some (.ref 84), some (.int v3)] [.int s0, .int s1] h := by
  exact g_icmp_eq (tgt := 1735) d_295_518 (by decide) kt (fun q => g_mask [false, false, false, false] (kf q))

theorem k_295_521 {X : GX} {d : Nat} {h : Hp} {L : Nat} {xs : Nat → Int32} (hX : X.2.2.2.2 = some (L, xs)) (hq : RtX X (some (.int 0)) h) : G X d 295 521 [none, none, none, none] [] h := by
  refine g_iconst (v := 0) d_295_521 (by decide) ?_
  exact g_retz d_295_522 rfl z01_0 hq

theorem k_295_523 {X : GX} {d : Nat} {h : Hp} {v3 : Int32} {L : Nat} {xs : Nat → Int32} (hX : X.2.2.2.2 = some (L, xs)) {d' : Nat} {Q' : Int32 → Hp → Prop} (b0 : vp_in (v3 + 1) L) (hdd : d' < d) (hC : CI d' 35 [.ref 0, .int (xs (Int32.toNatClampNeg (v3 + 1)))] h Q') (kk : ∀ x h', Q' x h' → G X d 295 532 [some (.ref 999), some (.ref 0), some (.ref 84), some (.int v3)] [.int x] h') : G X d 295 523 [some (.ref 999), some (.ref 0), some (.ref 84), some (.int v3)] [] h := by
  refine g_aload_n d_295_523 rfl rfl ?_
  refine g_aload_n d_295_524 rfl rfl ?_
  refine g_iload_n d_295_525 rfl rfl ?_
  refine g_iconst (v := 1) d_295_526 (by decide) ?_
  refine g_iadd d_295_527 ?_
  refine g_sld hX d_295_528 b0 ?_
  exact g_callVI (mj := 35) 8 [.int (xs (Int32.toNatClampNeg (v3 + 1)))] [] d_295_529 wd_172 mo_35 mc_35 mv_35 rfl rfl rfl (Nat.le_of_ble_eq_true rfl) rfl hdd hC kk

theorem k_295_532 {X : GX} {d : Nat} {h : Hp} {v3 : Int32} {s0 : Int32} {L : Nat} {xs : Nat → Int32} (hX : X.2.2.2.2 = some (L, xs)) {d' : Nat} {Q' : Int32 → Hp → Prop} (b0 : vp_in (v3 + 1) L) (hdd : d' < d) (hC : CI d' 202 [.ref 84, .int (xs (Int32.toNatClampNeg (v3 + 1)))] h Q') (kk : ∀ x h', Q' x h' → G X d 295 541 [some (.ref 999), some (.ref 0), some (.ref 84), some (.int v3)] [.int x, .int s0] h') : G X d 295 532 [some (.ref 999), some (.ref 0), some (.ref 84), some (.int v3)] [.int s0] h := by
  refine g_aload_n d_295_532 rfl rfl ?_
  refine g_aload_n d_295_533 rfl rfl ?_
  refine g_iload_n d_295_534 rfl rfl ?_
  refine g_iconst (v := 1) d_295_535 (by decide) ?_
  refine g_iadd d_295_536 ?_
  refine g_sld hX d_295_537 b0 ?_
  exact g_callVI (mj := 202) 9 [.int (xs (Int32.toNatClampNeg (v3 + 1)))] [.int s0] d_295_538 wd_423 mo_202 mc_202 mv_202 rfl rfl rfl (Nat.le_of_ble_eq_true rfl) rfl hdd hC kk

theorem k_295_541 {X : GX} {d : Nat} {h : Hp} {v3 : Int32} {s0 : Int32} {s1 : Int32} {L : Nat} {xs : Nat → Int32} (hX : X.2.2.2.2 = some (L, xs)) (kt : s1 = s0 → G X d 295 1735 [some (.ref 999), some (.ref 0), some (.ref 84), some (.int v3)] [] h) (kf : ¬ s1 = s0 → G X d 295 544 [none, none, none, none] [] h) : G X d 295 541 [some (.ref 999), some (.ref 0), some (.ref 84), some (.int v3)] [.int s0, .int s1] h := by
  exact g_icmp_eq (tgt := 1735) d_295_541 (by decide) kt (fun q => g_mask [false, false, false, false] (kf q))

theorem k_295_544 {X : GX} {d : Nat} {h : Hp} {L : Nat} {xs : Nat → Int32} (hX : X.2.2.2.2 = some (L, xs)) (hq : RtX X (some (.int 0)) h) : G X d 295 544 [none, none, none, none] [] h := by
  refine g_iconst (v := 0) d_295_544 (by decide) ?_
  exact g_retz d_295_545 rfl z01_0 hq

theorem k_295_546 {X : GX} {d : Nat} {h : Hp} {v3 : Int32} {L : Nat} {xs : Nat → Int32} (hX : X.2.2.2.2 = some (L, xs)) {d' : Nat} {Q' : Int32 → Hp → Prop} (hdd : d' < d) (hC : CI d' 36 [.ref 0] h Q') (kk : ∀ x h', Q' x h' → G X d 295 550 [some (.ref 999), some (.ref 0), some (.ref 84), some (.int v3)] [.int x] h') : G X d 295 546 [some (.ref 999), some (.ref 0), some (.ref 84), some (.int v3)] [] h := by
  refine g_aload_n d_295_546 rfl rfl ?_
  exact g_callVI (mj := 36) 8 [] [] d_295_547 wd_173 mo_36 mc_36 mv_36 rfl rfl rfl (Nat.le_of_ble_eq_true rfl) rfl hdd hC kk

theorem k_295_550 {X : GX} {d : Nat} {h : Hp} {v3 : Int32} {s0 : Int32} {L : Nat} {xs : Nat → Int32} (hX : X.2.2.2.2 = some (L, xs)) {d' : Nat} {Q' : Int32 → Hp → Prop} (hdd : d' < d) (hC : CI d' 203 [.ref 84] h Q') (kk : ∀ x h', Q' x h' → G X d 295 554 [some (.ref 999), some (.ref 0), some (.ref 84), some (.int v3)] [.int x, .int s0] h') : G X d 295 550 [some (.ref 999), some (.ref 0), some (.ref 84), some (.int v3)] [.int s0] h := by
  refine g_aload_n d_295_550 rfl rfl ?_
  exact g_callVI (mj := 203) 9 [] [.int s0] d_295_551 wd_425 mo_203 mc_203 mv_203 rfl rfl rfl (Nat.le_of_ble_eq_true rfl) rfl hdd hC kk

theorem k_295_554 {X : GX} {d : Nat} {h : Hp} {v3 : Int32} {s0 : Int32} {s1 : Int32} {L : Nat} {xs : Nat → Int32} (hX : X.2.2.2.2 = some (L, xs)) (kt : s1 = s0 → G X d 295 1735 [some (.ref 999), some (.ref 0), some (.ref 84), some (.int v3)] [] h) (kf : ¬ s1 = s0 → G X d 295 557 [none, none, none, none] [] h) : G X d 295 554 [some (.ref 999), some (.ref 0), some (.ref 84), some (.int v3)] [.int s0, .int s1] h := by
  exact g_icmp_eq (tgt := 1735) d_295_554 (by decide) kt (fun q => g_mask [false, false, false, false] (kf q))

theorem k_295_557 {X : GX} {d : Nat} {h : Hp} {L : Nat} {xs : Nat → Int32} (hX : X.2.2.2.2 = some (L, xs)) (hq : RtX X (some (.int 0)) h) : G X d 295 557 [none, none, none, none] [] h := by
  refine g_iconst (v := 0) d_295_557 (by decide) ?_
  exact g_retz d_295_558 rfl z01_0 hq

theorem k_295_559 {X : GX} {d : Nat} {h : Hp} {v3 : Int32} {L : Nat} {xs : Nat → Int32} (hX : X.2.2.2.2 = some (L, xs)) {d' : Nat} {Q' : Int32 → Hp → Prop} (b0 : vp_in (v3 + 1) L) (hdd : d' < d) (hC : CI d' 37 [.ref 0, .int (xs (Int32.toNatClampNeg (v3 + 1)))] h Q') (kk : ∀ x h', Q' x h' → G X d 295 568 [some (.ref 999), some (.ref 0), some (.ref 84), some (.int v3)] [.int x] h') : G X d 295 559 [some (.ref 999), some (.ref 0), some (.ref 84), some (.int v3)] [] h := by
  refine g_aload_n d_295_559 rfl rfl ?_
  refine g_aload_n d_295_560 rfl rfl ?_
  refine g_iload_n d_295_561 rfl rfl ?_
  refine g_iconst (v := 1) d_295_562 (by decide) ?_
  refine g_iadd d_295_563 ?_
  refine g_sld hX d_295_564 b0 ?_
  exact g_callVI (mj := 37) 8 [.int (xs (Int32.toNatClampNeg (v3 + 1)))] [] d_295_565 wd_174 mo_37 mc_37 mv_37 rfl rfl rfl (Nat.le_of_ble_eq_true rfl) rfl hdd hC kk

theorem k_295_568 {X : GX} {d : Nat} {h : Hp} {v3 : Int32} {s0 : Int32} {L : Nat} {xs : Nat → Int32} (hX : X.2.2.2.2 = some (L, xs)) {d' : Nat} {Q' : Int32 → Hp → Prop} (b0 : vp_in (v3 + 1) L) (hdd : d' < d) (hC : CI d' 204 [.ref 84, .int (xs (Int32.toNatClampNeg (v3 + 1)))] h Q') (kk : ∀ x h', Q' x h' → G X d 295 577 [some (.ref 999), some (.ref 0), some (.ref 84), some (.int v3)] [.int x, .int s0] h') : G X d 295 568 [some (.ref 999), some (.ref 0), some (.ref 84), some (.int v3)] [.int s0] h := by
  refine g_aload_n d_295_568 rfl rfl ?_
  refine g_aload_n d_295_569 rfl rfl ?_
  refine g_iload_n d_295_570 rfl rfl ?_
  refine g_iconst (v := 1) d_295_571 (by decide) ?_
  refine g_iadd d_295_572 ?_
  refine g_sld hX d_295_573 b0 ?_
  exact g_callVI (mj := 204) 9 [.int (xs (Int32.toNatClampNeg (v3 + 1)))] [.int s0] d_295_574 wd_426 mo_204 mc_204 mv_204 rfl rfl rfl (Nat.le_of_ble_eq_true rfl) rfl hdd hC kk

theorem k_295_577 {X : GX} {d : Nat} {h : Hp} {v3 : Int32} {s0 : Int32} {s1 : Int32} {L : Nat} {xs : Nat → Int32} (hX : X.2.2.2.2 = some (L, xs)) (kt : s1 = s0 → G X d 295 1735 [some (.ref 999), some (.ref 0), some (.ref 84), some (.int v3)] [] h) (kf : ¬ s1 = s0 → G X d 295 580 [none, none, none, none] [] h) : G X d 295 577 [some (.ref 999), some (.ref 0), some (.ref 84), some (.int v3)] [.int s0, .int s1] h := by
  exact g_icmp_eq (tgt := 1735) d_295_577 (by decide) kt (fun q => g_mask [false, false, false, false] (kf q))

theorem k_295_580 {X : GX} {d : Nat} {h : Hp} {L : Nat} {xs : Nat → Int32} (hX : X.2.2.2.2 = some (L, xs)) (hq : RtX X (some (.int 0)) h) : G X d 295 580 [none, none, none, none] [] h := by
  refine g_iconst (v := 0) d_295_580 (by decide) ?_
  exact g_retz d_295_581 rfl z01_0 hq

theorem k_295_582 {X : GX} {d : Nat} {h : Hp} {v3 : Int32} {L : Nat} {xs : Nat → Int32} (hX : X.2.2.2.2 = some (L, xs)) {d' : Nat} {Q' : Int32 → Hp → Prop} (b0 : vp_in (v3 + 1) L) (b1 : vp_in (v3 + 2) L) (b2 : vp_in (v3 + 3) L) (hdd : d' < d) (hC : CI d' 41 [.ref 0, .long (((Int32.toInt64 (xs (Int32.toNatClampNeg (v3 + 1)))) <<< ((32 : Int32).toInt64 &&& 63)) ||| ((Int32.toInt64 (xs (Int32.toNatClampNeg (v3 + 2)))) &&& 4294967295)), .int (xs (Int32.toNatClampNeg (v3 + 3)))] h Q') (kk : ∀ x h', Q' x h' → G X d 295 611 [some (.ref 999), some (.ref 0), some (.ref 84), some (.int v3)] [.int x] h') : G X d 295 582 [some (.ref 999), some (.ref 0), some (.ref 84), some (.int v3)] [] h := by
  refine g_aload_n d_295_582 rfl rfl ?_
  refine g_aload_n d_295_583 rfl rfl ?_
  refine g_iload_n d_295_584 rfl rfl ?_
  refine g_iconst (v := 1) d_295_585 (by decide) ?_
  refine g_iadd d_295_586 ?_
  refine g_sld hX d_295_587 b0 ?_
  refine g_i2l d_295_588 ?_
  refine g_bipush (v := 32) d_295_589 (by decide) ?_
  refine g_lshl d_295_591 ?_
  refine g_aload_n d_295_592 rfl rfl ?_
  refine g_iload_n d_295_593 rfl rfl ?_
  refine g_iconst (v := 2) d_295_594 (by decide) ?_
  refine g_iadd d_295_595 ?_
  refine g_sld hX d_295_596 b1 ?_
  refine g_i2l d_295_597 ?_
  refine g_ldc2_w (v := 4294967295) d_295_598 wd_553 ?_
  refine g_land d_295_601 ?_
  refine g_lor d_295_602 ?_
  refine g_aload_n d_295_603 rfl rfl ?_
  refine g_iload_n d_295_604 rfl rfl ?_
  refine g_iconst (v := 3) d_295_605 (by decide) ?_
  refine g_iadd d_295_606 ?_
  refine g_sld hX d_295_607 b2 ?_
  exact g_callVI (mj := 41) 8 [.long (((Int32.toInt64 (xs (Int32.toNatClampNeg (v3 + 1)))) <<< ((32 : Int32).toInt64 &&& 63)) ||| ((Int32.toInt64 (xs (Int32.toNatClampNeg (v3 + 2)))) &&& 4294967295)), .int (xs (Int32.toNatClampNeg (v3 + 3)))] [] d_295_608 wd_178 mo_41 mc_41 mv_41 rfl rfl rfl (Nat.le_of_ble_eq_true rfl) rfl hdd hC kk

theorem k_295_611 {X : GX} {d : Nat} {h : Hp} {v3 : Int32} {s0 : Int32} {L : Nat} {xs : Nat → Int32} (hX : X.2.2.2.2 = some (L, xs)) {d' : Nat} {Q' : Int32 → Hp → Prop} (b0 : vp_in (v3 + 1) L) (b1 : vp_in (v3 + 2) L) (b2 : vp_in (v3 + 3) L) (hdd : d' < d) (hC : CI d' 208 [.ref 84, .long (((Int32.toInt64 (xs (Int32.toNatClampNeg (v3 + 1)))) <<< ((32 : Int32).toInt64 &&& 63)) ||| ((Int32.toInt64 (xs (Int32.toNatClampNeg (v3 + 2)))) &&& 4294967295)), .int (xs (Int32.toNatClampNeg (v3 + 3)))] h Q') (kk : ∀ x h', Q' x h' → G X d 295 640 [some (.ref 999), some (.ref 0), some (.ref 84), some (.int v3)] [.int x, .int s0] h') : G X d 295 611 [some (.ref 999), some (.ref 0), some (.ref 84), some (.int v3)] [.int s0] h := by
  refine g_aload_n d_295_611 rfl rfl ?_
  refine g_aload_n d_295_612 rfl rfl ?_
  refine g_iload_n d_295_613 rfl rfl ?_
  refine g_iconst (v := 1) d_295_614 (by decide) ?_
  refine g_iadd d_295_615 ?_
  refine g_sld hX d_295_616 b0 ?_
  refine g_i2l d_295_617 ?_
  refine g_bipush (v := 32) d_295_618 (by decide) ?_
  refine g_lshl d_295_620 ?_
  refine g_aload_n d_295_621 rfl rfl ?_
  refine g_iload_n d_295_622 rfl rfl ?_
  refine g_iconst (v := 2) d_295_623 (by decide) ?_
  refine g_iadd d_295_624 ?_
  refine g_sld hX d_295_625 b1 ?_
  refine g_i2l d_295_626 ?_
  refine g_ldc2_w (v := 4294967295) d_295_627 wd_553 ?_
  refine g_land d_295_630 ?_
  refine g_lor d_295_631 ?_
  refine g_aload_n d_295_632 rfl rfl ?_
  refine g_iload_n d_295_633 rfl rfl ?_
  refine g_iconst (v := 3) d_295_634 (by decide) ?_
  refine g_iadd d_295_635 ?_
  refine g_sld hX d_295_636 b2 ?_
  exact g_callVI (mj := 208) 9 [.long (((Int32.toInt64 (xs (Int32.toNatClampNeg (v3 + 1)))) <<< ((32 : Int32).toInt64 &&& 63)) ||| ((Int32.toInt64 (xs (Int32.toNatClampNeg (v3 + 2)))) &&& 4294967295)), .int (xs (Int32.toNatClampNeg (v3 + 3)))] [.int s0] d_295_637 wd_430 mo_208 mc_208 mv_208 rfl rfl rfl (Nat.le_of_ble_eq_true rfl) rfl hdd hC kk

theorem k_295_640 {X : GX} {d : Nat} {h : Hp} {v3 : Int32} {s0 : Int32} {s1 : Int32} {L : Nat} {xs : Nat → Int32} (hX : X.2.2.2.2 = some (L, xs)) (kt : s1 = s0 → G X d 295 1735 [some (.ref 999), some (.ref 0), some (.ref 84), some (.int v3)] [] h) (kf : ¬ s1 = s0 → G X d 295 643 [none, none, none, none] [] h) : G X d 295 640 [some (.ref 999), some (.ref 0), some (.ref 84), some (.int v3)] [.int s0, .int s1] h := by
  exact g_icmp_eq (tgt := 1735) d_295_640 (by decide) kt (fun q => g_mask [false, false, false, false] (kf q))

theorem k_295_643 {X : GX} {d : Nat} {h : Hp} {L : Nat} {xs : Nat → Int32} (hX : X.2.2.2.2 = some (L, xs)) (hq : RtX X (some (.int 0)) h) : G X d 295 643 [none, none, none, none] [] h := by
  refine g_iconst (v := 0) d_295_643 (by decide) ?_
  exact g_retz d_295_644 rfl z01_0 hq

theorem k_295_645 {X : GX} {d : Nat} {h : Hp} {v3 : Int32} {L : Nat} {xs : Nat → Int32} (hX : X.2.2.2.2 = some (L, xs)) {d' : Nat} {Q' : Int32 → Hp → Prop} (hdd : d' < d) (hC : CI d' 44 [.ref 0] h Q') (kk : ∀ x h', Q' x h' → G X d 295 649 [some (.ref 999), some (.ref 0), some (.ref 84), some (.int v3)] [.int x] h') : G X d 295 645 [some (.ref 999), some (.ref 0), some (.ref 84), some (.int v3)] [] h := by
  refine g_aload_n d_295_645 rfl rfl ?_
  exact g_callVI (mj := 44) 8 [] [] d_295_646 wd_182 mo_44 mc_44 mv_44 rfl rfl rfl (Nat.le_of_ble_eq_true rfl) rfl hdd hC kk

theorem k_295_649 {X : GX} {d : Nat} {h : Hp} {v3 : Int32} {s0 : Int32} {L : Nat} {xs : Nat → Int32} (hX : X.2.2.2.2 = some (L, xs)) {d' : Nat} {Q' : Int32 → Hp → Prop} (hdd : d' < d) (hC : CI d' 209 [.ref 84] h Q') (kk : ∀ x h', Q' x h' → G X d 295 653 [some (.ref 999), some (.ref 0), some (.ref 84), some (.int v3)] [.int x, .int s0] h') : G X d 295 649 [some (.ref 999), some (.ref 0), some (.ref 84), some (.int v3)] [.int s0] h := by
  refine g_aload_n d_295_649 rfl rfl ?_
  exact g_callVI (mj := 209) 9 [] [.int s0] d_295_650 wd_433 mo_209 mc_209 mv_209 rfl rfl rfl (Nat.le_of_ble_eq_true rfl) rfl hdd hC kk

theorem k_295_653 {X : GX} {d : Nat} {h : Hp} {v3 : Int32} {s0 : Int32} {s1 : Int32} {L : Nat} {xs : Nat → Int32} (hX : X.2.2.2.2 = some (L, xs)) (kt : s1 = s0 → G X d 295 1735 [some (.ref 999), some (.ref 0), some (.ref 84), some (.int v3)] [] h) (kf : ¬ s1 = s0 → G X d 295 656 [none, none, none, none] [] h) : G X d 295 653 [some (.ref 999), some (.ref 0), some (.ref 84), some (.int v3)] [.int s0, .int s1] h := by
  exact g_icmp_eq (tgt := 1735) d_295_653 (by decide) kt (fun q => g_mask [false, false, false, false] (kf q))

theorem k_295_656 {X : GX} {d : Nat} {h : Hp} {L : Nat} {xs : Nat → Int32} (hX : X.2.2.2.2 = some (L, xs)) (hq : RtX X (some (.int 0)) h) : G X d 295 656 [none, none, none, none] [] h := by
  refine g_iconst (v := 0) d_295_656 (by decide) ?_
  exact g_retz d_295_657 rfl z01_0 hq

theorem k_295_658 {X : GX} {d : Nat} {h : Hp} {v3 : Int32} {L : Nat} {xs : Nat → Int32} (hX : X.2.2.2.2 = some (L, xs)) {d' : Nat} {Q' : Int32 → Hp → Prop} (hdd : d' < d) (hC : CI d' 79 [.ref 0] h Q') (kk : ∀ x h', Q' x h' → G X d 295 662 [some (.ref 999), some (.ref 0), some (.ref 84), some (.int v3)] [.int x] h') : G X d 295 658 [some (.ref 999), some (.ref 0), some (.ref 84), some (.int v3)] [] h := by
  refine g_aload_n d_295_658 rfl rfl ?_
  exact g_callVI (mj := 79) 8 [] [] d_295_659 wd_224 mo_79 mc_79 mv_79 rfl rfl rfl (Nat.le_of_ble_eq_true rfl) rfl hdd hC kk

theorem k_295_662 {X : GX} {d : Nat} {h : Hp} {v3 : Int32} {s0 : Int32} {L : Nat} {xs : Nat → Int32} (hX : X.2.2.2.2 = some (L, xs)) {d' : Nat} {Q' : Int32 → Hp → Prop} (hdd : d' < d) (hC : CI d' 224 [.ref 84] h Q') (kk : ∀ x h', Q' x h' → G X d 295 666 [some (.ref 999), some (.ref 0), some (.ref 84), some (.int v3)] [.int x, .int s0] h') : G X d 295 662 [some (.ref 999), some (.ref 0), some (.ref 84), some (.int v3)] [.int s0] h := by
  refine g_aload_n d_295_662 rfl rfl ?_
  exact g_callVI (mj := 224) 9 [] [.int s0] d_295_663 wd_472 mo_224 mc_224 mv_224 rfl rfl rfl (Nat.le_of_ble_eq_true rfl) rfl hdd hC kk

theorem k_295_666 {X : GX} {d : Nat} {h : Hp} {v3 : Int32} {s0 : Int32} {s1 : Int32} {L : Nat} {xs : Nat → Int32} (hX : X.2.2.2.2 = some (L, xs)) (kt : s1 = s0 → G X d 295 1735 [some (.ref 999), some (.ref 0), some (.ref 84), some (.int v3)] [] h) (kf : ¬ s1 = s0 → G X d 295 669 [none, none, none, none] [] h) : G X d 295 666 [some (.ref 999), some (.ref 0), some (.ref 84), some (.int v3)] [.int s0, .int s1] h := by
  exact g_icmp_eq (tgt := 1735) d_295_666 (by decide) kt (fun q => g_mask [false, false, false, false] (kf q))

theorem k_295_669 {X : GX} {d : Nat} {h : Hp} {L : Nat} {xs : Nat → Int32} (hX : X.2.2.2.2 = some (L, xs)) (hq : RtX X (some (.int 0)) h) : G X d 295 669 [none, none, none, none] [] h := by
  refine g_iconst (v := 0) d_295_669 (by decide) ?_
  exact g_retz d_295_670 rfl z01_0 hq

theorem k_295_671 {X : GX} {d : Nat} {h : Hp} {v3 : Int32} {L : Nat} {xs : Nat → Int32} (hX : X.2.2.2.2 = some (L, xs)) {d' : Nat} {Q' : Int32 → Hp → Prop} (b0 : vp_in (v3 + 1) L) (hdd : d' < d) (hC : CI d' 85 [.ref 0, .int (xs (Int32.toNatClampNeg (v3 + 1)))] h Q') (kk : ∀ x h', Q' x h' → G X d 295 680 [some (.ref 999), some (.ref 0), some (.ref 84), some (.int v3)] [.int x] h') : G X d 295 671 [some (.ref 999), some (.ref 0), some (.ref 84), some (.int v3)] [] h := by
  refine g_aload_n d_295_671 rfl rfl ?_
  refine g_aload_n d_295_672 rfl rfl ?_
  refine g_iload_n d_295_673 rfl rfl ?_
  refine g_iconst (v := 1) d_295_674 (by decide) ?_
  refine g_iadd d_295_675 ?_
  refine g_sld hX d_295_676 b0 ?_
  exact g_callVI (mj := 85) 8 [.int (xs (Int32.toNatClampNeg (v3 + 1)))] [] d_295_677 wd_233 mo_85 mc_85 mv_85 rfl rfl rfl (Nat.le_of_ble_eq_true rfl) rfl hdd hC kk

theorem k_295_680 {X : GX} {d : Nat} {h : Hp} {v3 : Int32} {s0 : Int32} {L : Nat} {xs : Nat → Int32} (hX : X.2.2.2.2 = some (L, xs)) {d' : Nat} {Q' : Int32 → Hp → Prop} (b0 : vp_in (v3 + 1) L) (hdd : d' < d) (hC : CI d' 228 [.ref 84, .int (xs (Int32.toNatClampNeg (v3 + 1)))] h Q') (kk : ∀ x h', Q' x h' → G X d 295 689 [some (.ref 999), some (.ref 0), some (.ref 84), some (.int v3)] [.int x, .int s0] h') : G X d 295 680 [some (.ref 999), some (.ref 0), some (.ref 84), some (.int v3)] [.int s0] h := by
  refine g_aload_n d_295_680 rfl rfl ?_
  refine g_aload_n d_295_681 rfl rfl ?_
  refine g_iload_n d_295_682 rfl rfl ?_
  refine g_iconst (v := 1) d_295_683 (by decide) ?_
  refine g_iadd d_295_684 ?_
  refine g_sld hX d_295_685 b0 ?_
  exact g_callVI (mj := 228) 9 [.int (xs (Int32.toNatClampNeg (v3 + 1)))] [.int s0] d_295_686 wd_476 mo_228 mc_228 mv_228 rfl rfl rfl (Nat.le_of_ble_eq_true rfl) rfl hdd hC kk

theorem k_295_689 {X : GX} {d : Nat} {h : Hp} {v3 : Int32} {s0 : Int32} {s1 : Int32} {L : Nat} {xs : Nat → Int32} (hX : X.2.2.2.2 = some (L, xs)) (kt : s1 = s0 → G X d 295 1735 [some (.ref 999), some (.ref 0), some (.ref 84), some (.int v3)] [] h) (kf : ¬ s1 = s0 → G X d 295 692 [none, none, none, none] [] h) : G X d 295 689 [some (.ref 999), some (.ref 0), some (.ref 84), some (.int v3)] [.int s0, .int s1] h := by
  exact g_icmp_eq (tgt := 1735) d_295_689 (by decide) kt (fun q => g_mask [false, false, false, false] (kf q))

theorem k_295_692 {X : GX} {d : Nat} {h : Hp} {L : Nat} {xs : Nat → Int32} (hX : X.2.2.2.2 = some (L, xs)) (hq : RtX X (some (.int 0)) h) : G X d 295 692 [none, none, none, none] [] h := by
  refine g_iconst (v := 0) d_295_692 (by decide) ?_
  exact g_retz d_295_693 rfl z01_0 hq

theorem k_295_694 {X : GX} {d : Nat} {h : Hp} {v3 : Int32} {L : Nat} {xs : Nat → Int32} (hX : X.2.2.2.2 = some (L, xs)) {d' : Nat} {Q' : Int32 → Hp → Prop} (b0 : vp_in (v3 + 1) L) (hdd : d' < d) (hC : CI d' 89 [.ref 0, .int (xs (Int32.toNatClampNeg (v3 + 1)))] h Q') (kk : ∀ x h', Q' x h' → G X d 295 703 [some (.ref 999), some (.ref 0), some (.ref 84), some (.int v3)] [.int x] h') : G X d 295 694 [some (.ref 999), some (.ref 0), some (.ref 84), some (.int v3)] [] h := by
  refine g_aload_n d_295_694 rfl rfl ?_
  refine g_aload_n d_295_695 rfl rfl ?_
  refine g_iload_n d_295_696 rfl rfl ?_
  refine g_iconst (v := 1) d_295_697 (by decide) ?_
  refine g_iadd d_295_698 ?_
  refine g_sld hX d_295_699 b0 ?_
  exact g_callVI (mj := 89) 8 [.int (xs (Int32.toNatClampNeg (v3 + 1)))] [] d_295_700 wd_241 mo_89 mc_89 mv_89 rfl rfl rfl (Nat.le_of_ble_eq_true rfl) rfl hdd hC kk

theorem k_295_703 {X : GX} {d : Nat} {h : Hp} {v3 : Int32} {s0 : Int32} {L : Nat} {xs : Nat → Int32} (hX : X.2.2.2.2 = some (L, xs)) {d' : Nat} {Q' : Int32 → Hp → Prop} (b0 : vp_in (v3 + 1) L) (hdd : d' < d) (hC : CI d' 233 [.ref 84, .int (xs (Int32.toNatClampNeg (v3 + 1)))] h Q') (kk : ∀ x h', Q' x h' → G X d 295 712 [some (.ref 999), some (.ref 0), some (.ref 84), some (.int v3)] [.int x, .int s0] h') : G X d 295 703 [some (.ref 999), some (.ref 0), some (.ref 84), some (.int v3)] [.int s0] h := by
  refine g_aload_n d_295_703 rfl rfl ?_
  refine g_aload_n d_295_704 rfl rfl ?_
  refine g_iload_n d_295_705 rfl rfl ?_
  refine g_iconst (v := 1) d_295_706 (by decide) ?_
  refine g_iadd d_295_707 ?_
  refine g_sld hX d_295_708 b0 ?_
  exact g_callVI (mj := 233) 9 [.int (xs (Int32.toNatClampNeg (v3 + 1)))] [.int s0] d_295_709 wd_481 mo_233 mc_233 mv_233 rfl rfl rfl (Nat.le_of_ble_eq_true rfl) rfl hdd hC kk

theorem k_295_712 {X : GX} {d : Nat} {h : Hp} {v3 : Int32} {s0 : Int32} {s1 : Int32} {L : Nat} {xs : Nat → Int32} (hX : X.2.2.2.2 = some (L, xs)) (kt : s1 = s0 → G X d 295 1735 [some (.ref 999), some (.ref 0), some (.ref 84), some (.int v3)] [] h) (kf : ¬ s1 = s0 → G X d 295 715 [none, none, none, none] [] h) : G X d 295 712 [some (.ref 999), some (.ref 0), some (.ref 84), some (.int v3)] [.int s0, .int s1] h := by
  exact g_icmp_eq (tgt := 1735) d_295_712 (by decide) kt (fun q => g_mask [false, false, false, false] (kf q))

theorem k_295_715 {X : GX} {d : Nat} {h : Hp} {L : Nat} {xs : Nat → Int32} (hX : X.2.2.2.2 = some (L, xs)) (hq : RtX X (some (.int 0)) h) : G X d 295 715 [none, none, none, none] [] h := by
  refine g_iconst (v := 0) d_295_715 (by decide) ?_
  exact g_retz d_295_716 rfl z01_0 hq

theorem k_295_717 {X : GX} {d : Nat} {h : Hp} {v3 : Int32} {L : Nat} {xs : Nat → Int32} (hX : X.2.2.2.2 = some (L, xs)) {d' : Nat} {Q' : Int32 → Hp → Prop} (b0 : vp_in (v3 + 1) L) (hdd : d' < d) (hC : CI d' 91 [.ref 0, .int (xs (Int32.toNatClampNeg (v3 + 1)))] h Q') (kk : ∀ x h', Q' x h' → G X d 295 726 [some (.ref 999), some (.ref 0), some (.ref 84), some (.int v3)] [.int x] h') : G X d 295 717 [some (.ref 999), some (.ref 0), some (.ref 84), some (.int v3)] [] h := by
  refine g_aload_n d_295_717 rfl rfl ?_
  refine g_aload_n d_295_718 rfl rfl ?_
  refine g_iload_n d_295_719 rfl rfl ?_
  refine g_iconst (v := 1) d_295_720 (by decide) ?_
  refine g_iadd d_295_721 ?_
  refine g_sld hX d_295_722 b0 ?_
  exact g_callVI (mj := 91) 8 [.int (xs (Int32.toNatClampNeg (v3 + 1)))] [] d_295_723 wd_244 mo_91 mc_91 mv_91 rfl rfl rfl (Nat.le_of_ble_eq_true rfl) rfl hdd hC kk

theorem k_295_726 {X : GX} {d : Nat} {h : Hp} {v3 : Int32} {s0 : Int32} {L : Nat} {xs : Nat → Int32} (hX : X.2.2.2.2 = some (L, xs)) {d' : Nat} {Q' : Int32 → Hp → Prop} (b0 : vp_in (v3 + 1) L) (hdd : d' < d) (hC : CI d' 234 [.ref 84, .int (xs (Int32.toNatClampNeg (v3 + 1)))] h Q') (kk : ∀ x h', Q' x h' → G X d 295 735 [some (.ref 999), some (.ref 0), some (.ref 84), some (.int v3)] [.int x, .int s0] h') : G X d 295 726 [some (.ref 999), some (.ref 0), some (.ref 84), some (.int v3)] [.int s0] h := by
  refine g_aload_n d_295_726 rfl rfl ?_
  refine g_aload_n d_295_727 rfl rfl ?_
  refine g_iload_n d_295_728 rfl rfl ?_
  refine g_iconst (v := 1) d_295_729 (by decide) ?_
  refine g_iadd d_295_730 ?_
  refine g_sld hX d_295_731 b0 ?_
  exact g_callVI (mj := 234) 9 [.int (xs (Int32.toNatClampNeg (v3 + 1)))] [.int s0] d_295_732 wd_482 mo_234 mc_234 mv_234 rfl rfl rfl (Nat.le_of_ble_eq_true rfl) rfl hdd hC kk

theorem k_295_735 {X : GX} {d : Nat} {h : Hp} {v3 : Int32} {s0 : Int32} {s1 : Int32} {L : Nat} {xs : Nat → Int32} (hX : X.2.2.2.2 = some (L, xs)) (kt : s1 = s0 → G X d 295 1735 [some (.ref 999), some (.ref 0), some (.ref 84), some (.int v3)] [] h) (kf : ¬ s1 = s0 → G X d 295 738 [none, none, none, none] [] h) : G X d 295 735 [some (.ref 999), some (.ref 0), some (.ref 84), some (.int v3)] [.int s0, .int s1] h := by
  exact g_icmp_eq (tgt := 1735) d_295_735 (by decide) kt (fun q => g_mask [false, false, false, false] (kf q))

theorem k_295_738 {X : GX} {d : Nat} {h : Hp} {L : Nat} {xs : Nat → Int32} (hX : X.2.2.2.2 = some (L, xs)) (hq : RtX X (some (.int 0)) h) : G X d 295 738 [none, none, none, none] [] h := by
  refine g_iconst (v := 0) d_295_738 (by decide) ?_
  exact g_retz d_295_739 rfl z01_0 hq

theorem k_295_740 {X : GX} {d : Nat} {h : Hp} {v3 : Int32} {L : Nat} {xs : Nat → Int32} (hX : X.2.2.2.2 = some (L, xs)) {d' : Nat} {Q' : Int32 → Hp → Prop} (b0 : vp_in (v3 + 1) L) (hdd : d' < d) (hC : CI d' 93 [.ref 0, .int (xs (Int32.toNatClampNeg (v3 + 1)))] h Q') (kk : ∀ x h', Q' x h' → G X d 295 749 [some (.ref 999), some (.ref 0), some (.ref 84), some (.int v3)] [.int x] h') : G X d 295 740 [some (.ref 999), some (.ref 0), some (.ref 84), some (.int v3)] [] h := by
  refine g_aload_n d_295_740 rfl rfl ?_
  refine g_aload_n d_295_741 rfl rfl ?_
  refine g_iload_n d_295_742 rfl rfl ?_
  refine g_iconst (v := 1) d_295_743 (by decide) ?_
  refine g_iadd d_295_744 ?_
  refine g_sld hX d_295_745 b0 ?_
  exact g_callVI (mj := 93) 8 [.int (xs (Int32.toNatClampNeg (v3 + 1)))] [] d_295_746 wd_246 mo_93 mc_93 mv_93 rfl rfl rfl (Nat.le_of_ble_eq_true rfl) rfl hdd hC kk

theorem k_295_749 {X : GX} {d : Nat} {h : Hp} {v3 : Int32} {s0 : Int32} {L : Nat} {xs : Nat → Int32} (hX : X.2.2.2.2 = some (L, xs)) {d' : Nat} {Q' : Int32 → Hp → Prop} (b0 : vp_in (v3 + 1) L) (hdd : d' < d) (hC : CI d' 236 [.ref 84, .int (xs (Int32.toNatClampNeg (v3 + 1)))] h Q') (kk : ∀ x h', Q' x h' → G X d 295 758 [some (.ref 999), some (.ref 0), some (.ref 84), some (.int v3)] [.int x, .int s0] h') : G X d 295 749 [some (.ref 999), some (.ref 0), some (.ref 84), some (.int v3)] [.int s0] h := by
  refine g_aload_n d_295_749 rfl rfl ?_
  refine g_aload_n d_295_750 rfl rfl ?_
  refine g_iload_n d_295_751 rfl rfl ?_
  refine g_iconst (v := 1) d_295_752 (by decide) ?_
  refine g_iadd d_295_753 ?_
  refine g_sld hX d_295_754 b0 ?_
  exact g_callVI (mj := 236) 9 [.int (xs (Int32.toNatClampNeg (v3 + 1)))] [.int s0] d_295_755 wd_484 mo_236 mc_236 mv_236 rfl rfl rfl (Nat.le_of_ble_eq_true rfl) rfl hdd hC kk

theorem k_295_758 {X : GX} {d : Nat} {h : Hp} {v3 : Int32} {s0 : Int32} {s1 : Int32} {L : Nat} {xs : Nat → Int32} (hX : X.2.2.2.2 = some (L, xs)) (kt : s1 = s0 → G X d 295 1735 [some (.ref 999), some (.ref 0), some (.ref 84), some (.int v3)] [] h) (kf : ¬ s1 = s0 → G X d 295 761 [none, none, none, none] [] h) : G X d 295 758 [some (.ref 999), some (.ref 0), some (.ref 84), some (.int v3)] [.int s0, .int s1] h := by
  exact g_icmp_eq (tgt := 1735) d_295_758 (by decide) kt (fun q => g_mask [false, false, false, false] (kf q))

theorem k_295_761 {X : GX} {d : Nat} {h : Hp} {L : Nat} {xs : Nat → Int32} (hX : X.2.2.2.2 = some (L, xs)) (hq : RtX X (some (.int 0)) h) : G X d 295 761 [none, none, none, none] [] h := by
  refine g_iconst (v := 0) d_295_761 (by decide) ?_
  exact g_retz d_295_762 rfl z01_0 hq

theorem k_295_763 {X : GX} {d : Nat} {h : Hp} {v3 : Int32} {L : Nat} {xs : Nat → Int32} (hX : X.2.2.2.2 = some (L, xs)) {d' : Nat} {Q' : Int32 → Hp → Prop} (b0 : vp_in (v3 + 1) L) (hdd : d' < d) (hC : CI d' 94 [.ref 0, .int (xs (Int32.toNatClampNeg (v3 + 1)))] h Q') (kk : ∀ x h', Q' x h' → G X d 295 772 [some (.ref 999), some (.ref 0), some (.ref 84), some (.int v3)] [.int x] h') : G X d 295 763 [some (.ref 999), some (.ref 0), some (.ref 84), some (.int v3)] [] h := by
  refine g_aload_n d_295_763 rfl rfl ?_
  refine g_aload_n d_295_764 rfl rfl ?_
  refine g_iload_n d_295_765 rfl rfl ?_
  refine g_iconst (v := 1) d_295_766 (by decide) ?_
  refine g_iadd d_295_767 ?_
  refine g_sld hX d_295_768 b0 ?_
  exact g_callVI (mj := 94) 8 [.int (xs (Int32.toNatClampNeg (v3 + 1)))] [] d_295_769 wd_247 mo_94 mc_94 mv_94 rfl rfl rfl (Nat.le_of_ble_eq_true rfl) rfl hdd hC kk

theorem k_295_772 {X : GX} {d : Nat} {h : Hp} {v3 : Int32} {s0 : Int32} {L : Nat} {xs : Nat → Int32} (hX : X.2.2.2.2 = some (L, xs)) {d' : Nat} {Q' : Int32 → Hp → Prop} (b0 : vp_in (v3 + 1) L) (hdd : d' < d) (hC : CI d' 237 [.ref 84, .int (xs (Int32.toNatClampNeg (v3 + 1)))] h Q') (kk : ∀ x h', Q' x h' → G X d 295 781 [some (.ref 999), some (.ref 0), some (.ref 84), some (.int v3)] [.int x, .int s0] h') : G X d 295 772 [some (.ref 999), some (.ref 0), some (.ref 84), some (.int v3)] [.int s0] h := by
  refine g_aload_n d_295_772 rfl rfl ?_
  refine g_aload_n d_295_773 rfl rfl ?_
  refine g_iload_n d_295_774 rfl rfl ?_
  refine g_iconst (v := 1) d_295_775 (by decide) ?_
  refine g_iadd d_295_776 ?_
  refine g_sld hX d_295_777 b0 ?_
  exact g_callVI (mj := 237) 9 [.int (xs (Int32.toNatClampNeg (v3 + 1)))] [.int s0] d_295_778 wd_485 mo_237 mc_237 mv_237 rfl rfl rfl (Nat.le_of_ble_eq_true rfl) rfl hdd hC kk

theorem k_295_781 {X : GX} {d : Nat} {h : Hp} {v3 : Int32} {s0 : Int32} {s1 : Int32} {L : Nat} {xs : Nat → Int32} (hX : X.2.2.2.2 = some (L, xs)) (kt : s1 = s0 → G X d 295 1735 [some (.ref 999), some (.ref 0), some (.ref 84), some (.int v3)] [] h) (kf : ¬ s1 = s0 → G X d 295 784 [none, none, none, none] [] h) : G X d 295 781 [some (.ref 999), some (.ref 0), some (.ref 84), some (.int v3)] [.int s0, .int s1] h := by
  exact g_icmp_eq (tgt := 1735) d_295_781 (by decide) kt (fun q => g_mask [false, false, false, false] (kf q))

theorem k_295_784 {X : GX} {d : Nat} {h : Hp} {L : Nat} {xs : Nat → Int32} (hX : X.2.2.2.2 = some (L, xs)) (hq : RtX X (some (.int 0)) h) : G X d 295 784 [none, none, none, none] [] h := by
  refine g_iconst (v := 0) d_295_784 (by decide) ?_
  exact g_retz d_295_785 rfl z01_0 hq

theorem k_295_786 {X : GX} {d : Nat} {h : Hp} {v3 : Int32} {L : Nat} {xs : Nat → Int32} (hX : X.2.2.2.2 = some (L, xs)) {d' : Nat} {Q' : Int32 → Hp → Prop} (b0 : vp_in (v3 + 1) L) (hdd : d' < d) (hC : CI d' 96 [.ref 0, .int (xs (Int32.toNatClampNeg (v3 + 1)))] h Q') (kk : ∀ x h', Q' x h' → G X d 295 795 [some (.ref 999), some (.ref 0), some (.ref 84), some (.int v3)] [.int x] h') : G X d 295 786 [some (.ref 999), some (.ref 0), some (.ref 84), some (.int v3)] [] h := by
  refine g_aload_n d_295_786 rfl rfl ?_
  refine g_aload_n d_295_787 rfl rfl ?_
  refine g_iload_n d_295_788 rfl rfl ?_
  refine g_iconst (v := 1) d_295_789 (by decide) ?_
  refine g_iadd d_295_790 ?_
  refine g_sld hX d_295_791 b0 ?_
  exact g_callVI (mj := 96) 8 [.int (xs (Int32.toNatClampNeg (v3 + 1)))] [] d_295_792 wd_250 mo_96 mc_96 mv_96 rfl rfl rfl (Nat.le_of_ble_eq_true rfl) rfl hdd hC kk

theorem k_295_795 {X : GX} {d : Nat} {h : Hp} {v3 : Int32} {s0 : Int32} {L : Nat} {xs : Nat → Int32} (hX : X.2.2.2.2 = some (L, xs)) {d' : Nat} {Q' : Int32 → Hp → Prop} (b0 : vp_in (v3 + 1) L) (hdd : d' < d) (hC : CI d' 238 [.ref 84, .int (xs (Int32.toNatClampNeg (v3 + 1)))] h Q') (kk : ∀ x h', Q' x h' → G X d 295 804 [some (.ref 999), some (.ref 0), some (.ref 84), some (.int v3)] [.int x, .int s0] h') : G X d 295 795 [some (.ref 999), some (.ref 0), some (.ref 84), some (.int v3)] [.int s0] h := by
  refine g_aload_n d_295_795 rfl rfl ?_
  refine g_aload_n d_295_796 rfl rfl ?_
  refine g_iload_n d_295_797 rfl rfl ?_
  refine g_iconst (v := 1) d_295_798 (by decide) ?_
  refine g_iadd d_295_799 ?_
  refine g_sld hX d_295_800 b0 ?_
  exact g_callVI (mj := 238) 9 [.int (xs (Int32.toNatClampNeg (v3 + 1)))] [.int s0] d_295_801 wd_487 mo_238 mc_238 mv_238 rfl rfl rfl (Nat.le_of_ble_eq_true rfl) rfl hdd hC kk

theorem k_295_804 {X : GX} {d : Nat} {h : Hp} {v3 : Int32} {s0 : Int32} {s1 : Int32} {L : Nat} {xs : Nat → Int32} (hX : X.2.2.2.2 = some (L, xs)) (kt : s1 = s0 → G X d 295 1735 [some (.ref 999), some (.ref 0), some (.ref 84), some (.int v3)] [] h) (kf : ¬ s1 = s0 → G X d 295 807 [none, none, none, none] [] h) : G X d 295 804 [some (.ref 999), some (.ref 0), some (.ref 84), some (.int v3)] [.int s0, .int s1] h := by
  exact g_icmp_eq (tgt := 1735) d_295_804 (by decide) kt (fun q => g_mask [false, false, false, false] (kf q))

theorem k_295_807 {X : GX} {d : Nat} {h : Hp} {L : Nat} {xs : Nat → Int32} (hX : X.2.2.2.2 = some (L, xs)) (hq : RtX X (some (.int 0)) h) : G X d 295 807 [none, none, none, none] [] h := by
  refine g_iconst (v := 0) d_295_807 (by decide) ?_
  exact g_retz d_295_808 rfl z01_0 hq

theorem k_295_809 {X : GX} {d : Nat} {h : Hp} {v3 : Int32} {L : Nat} {xs : Nat → Int32} (hX : X.2.2.2.2 = some (L, xs)) {d' : Nat} {Q' : Int32 → Hp → Prop} (b0 : vp_in (v3 + 1) L) (hdd : d' < d) (hC : CI d' 98 [.ref 0, .int (xs (Int32.toNatClampNeg (v3 + 1)))] h Q') (kk : ∀ x h', Q' x h' → G X d 295 818 [some (.ref 999), some (.ref 0), some (.ref 84), some (.int v3)] [.int x] h') : G X d 295 809 [some (.ref 999), some (.ref 0), some (.ref 84), some (.int v3)] [] h := by
  refine g_aload_n d_295_809 rfl rfl ?_
  refine g_aload_n d_295_810 rfl rfl ?_
  refine g_iload_n d_295_811 rfl rfl ?_
  refine g_iconst (v := 1) d_295_812 (by decide) ?_
  refine g_iadd d_295_813 ?_
  refine g_sld hX d_295_814 b0 ?_
  exact g_callVI (mj := 98) 8 [.int (xs (Int32.toNatClampNeg (v3 + 1)))] [] d_295_815 wd_252 mo_98 mc_98 mv_98 rfl rfl rfl (Nat.le_of_ble_eq_true rfl) rfl hdd hC kk

theorem k_295_818 {X : GX} {d : Nat} {h : Hp} {v3 : Int32} {s0 : Int32} {L : Nat} {xs : Nat → Int32} (hX : X.2.2.2.2 = some (L, xs)) {d' : Nat} {Q' : Int32 → Hp → Prop} (b0 : vp_in (v3 + 1) L) (hdd : d' < d) (hC : CI d' 240 [.ref 84, .int (xs (Int32.toNatClampNeg (v3 + 1)))] h Q') (kk : ∀ x h', Q' x h' → G X d 295 827 [some (.ref 999), some (.ref 0), some (.ref 84), some (.int v3)] [.int x, .int s0] h') : G X d 295 818 [some (.ref 999), some (.ref 0), some (.ref 84), some (.int v3)] [.int s0] h := by
  refine g_aload_n d_295_818 rfl rfl ?_
  refine g_aload_n d_295_819 rfl rfl ?_
  refine g_iload_n d_295_820 rfl rfl ?_
  refine g_iconst (v := 1) d_295_821 (by decide) ?_
  refine g_iadd d_295_822 ?_
  refine g_sld hX d_295_823 b0 ?_
  exact g_callVI (mj := 240) 9 [.int (xs (Int32.toNatClampNeg (v3 + 1)))] [.int s0] d_295_824 wd_489 mo_240 mc_240 mv_240 rfl rfl rfl (Nat.le_of_ble_eq_true rfl) rfl hdd hC kk

theorem k_295_827 {X : GX} {d : Nat} {h : Hp} {v3 : Int32} {s0 : Int32} {s1 : Int32} {L : Nat} {xs : Nat → Int32} (hX : X.2.2.2.2 = some (L, xs)) (kt : s1 = s0 → G X d 295 1735 [some (.ref 999), some (.ref 0), some (.ref 84), some (.int v3)] [] h) (kf : ¬ s1 = s0 → G X d 295 830 [none, none, none, none] [] h) : G X d 295 827 [some (.ref 999), some (.ref 0), some (.ref 84), some (.int v3)] [.int s0, .int s1] h := by
  exact g_icmp_eq (tgt := 1735) d_295_827 (by decide) kt (fun q => g_mask [false, false, false, false] (kf q))

theorem k_295_830 {X : GX} {d : Nat} {h : Hp} {L : Nat} {xs : Nat → Int32} (hX : X.2.2.2.2 = some (L, xs)) (hq : RtX X (some (.int 0)) h) : G X d 295 830 [none, none, none, none] [] h := by
  refine g_iconst (v := 0) d_295_830 (by decide) ?_
  exact g_retz d_295_831 rfl z01_0 hq

theorem k_295_832 {X : GX} {d : Nat} {h : Hp} {v3 : Int32} {L : Nat} {xs : Nat → Int32} (hX : X.2.2.2.2 = some (L, xs)) {d' : Nat} {Q' : Int32 → Hp → Prop} (b0 : vp_in (v3 + 1) L) (hdd : d' < d) (hC : CI d' 104 [.ref 0, .int (xs (Int32.toNatClampNeg (v3 + 1)))] h Q') (kk : ∀ x h', Q' x h' → G X d 295 841 [some (.ref 999), some (.ref 0), some (.ref 84), some (.int v3)] [.int x] h') : G X d 295 832 [some (.ref 999), some (.ref 0), some (.ref 84), some (.int v3)] [] h := by
  refine g_aload_n d_295_832 rfl rfl ?_
  refine g_aload_n d_295_833 rfl rfl ?_
  refine g_iload_n d_295_834 rfl rfl ?_
  refine g_iconst (v := 1) d_295_835 (by decide) ?_
  refine g_iadd d_295_836 ?_
  refine g_sld hX d_295_837 b0 ?_
  exact g_callVI (mj := 104) 8 [.int (xs (Int32.toNatClampNeg (v3 + 1)))] [] d_295_838 wd_258 mo_104 mc_104 mv_104 rfl rfl rfl (Nat.le_of_ble_eq_true rfl) rfl hdd hC kk

theorem k_295_841 {X : GX} {d : Nat} {h : Hp} {v3 : Int32} {s0 : Int32} {L : Nat} {xs : Nat → Int32} (hX : X.2.2.2.2 = some (L, xs)) {d' : Nat} {Q' : Int32 → Hp → Prop} (b0 : vp_in (v3 + 1) L) (hdd : d' < d) (hC : CI d' 244 [.ref 84, .int (xs (Int32.toNatClampNeg (v3 + 1)))] h Q') (kk : ∀ x h', Q' x h' → G X d 295 850 [some (.ref 999), some (.ref 0), some (.ref 84), some (.int v3)] [.int x, .int s0] h') : G X d 295 841 [some (.ref 999), some (.ref 0), some (.ref 84), some (.int v3)] [.int s0] h := by
  refine g_aload_n d_295_841 rfl rfl ?_
  refine g_aload_n d_295_842 rfl rfl ?_
  refine g_iload_n d_295_843 rfl rfl ?_
  refine g_iconst (v := 1) d_295_844 (by decide) ?_
  refine g_iadd d_295_845 ?_
  refine g_sld hX d_295_846 b0 ?_
  exact g_callVI (mj := 244) 9 [.int (xs (Int32.toNatClampNeg (v3 + 1)))] [.int s0] d_295_847 wd_493 mo_244 mc_244 mv_244 rfl rfl rfl (Nat.le_of_ble_eq_true rfl) rfl hdd hC kk

theorem k_295_850 {X : GX} {d : Nat} {h : Hp} {v3 : Int32} {s0 : Int32} {s1 : Int32} {L : Nat} {xs : Nat → Int32} (hX : X.2.2.2.2 = some (L, xs)) (kt : s1 = s0 → G X d 295 1735 [some (.ref 999), some (.ref 0), some (.ref 84), some (.int v3)] [] h) (kf : ¬ s1 = s0 → G X d 295 853 [none, none, none, none] [] h) : G X d 295 850 [some (.ref 999), some (.ref 0), some (.ref 84), some (.int v3)] [.int s0, .int s1] h := by
  exact g_icmp_eq (tgt := 1735) d_295_850 (by decide) kt (fun q => g_mask [false, false, false, false] (kf q))

theorem k_295_853 {X : GX} {d : Nat} {h : Hp} {L : Nat} {xs : Nat → Int32} (hX : X.2.2.2.2 = some (L, xs)) (hq : RtX X (some (.int 0)) h) : G X d 295 853 [none, none, none, none] [] h := by
  refine g_iconst (v := 0) d_295_853 (by decide) ?_
  exact g_retz d_295_854 rfl z01_0 hq

theorem k_295_855 {X : GX} {d : Nat} {h : Hp} {v3 : Int32} {L : Nat} {xs : Nat → Int32} (hX : X.2.2.2.2 = some (L, xs)) {d' : Nat} {Q' : Int32 → Hp → Prop} (b0 : vp_in (v3 + 1) L) (hdd : d' < d) (hC : CI d' 107 [.ref 0, .int (xs (Int32.toNatClampNeg (v3 + 1)))] h Q') (kk : ∀ x h', Q' x h' → G X d 295 864 [some (.ref 999), some (.ref 0), some (.ref 84), some (.int v3)] [.int x] h') : G X d 295 855 [some (.ref 999), some (.ref 0), some (.ref 84), some (.int v3)] [] h := by
  refine g_aload_n d_295_855 rfl rfl ?_
  refine g_aload_n d_295_856 rfl rfl ?_
  refine g_iload_n d_295_857 rfl rfl ?_
  refine g_iconst (v := 1) d_295_858 (by decide) ?_
  refine g_iadd d_295_859 ?_
  refine g_sld hX d_295_860 b0 ?_
  exact g_callVI (mj := 107) 8 [.int (xs (Int32.toNatClampNeg (v3 + 1)))] [] d_295_861 wd_264 mo_107 mc_107 mv_107 rfl rfl rfl (Nat.le_of_ble_eq_true rfl) rfl hdd hC kk

theorem k_295_864 {X : GX} {d : Nat} {h : Hp} {v3 : Int32} {s0 : Int32} {L : Nat} {xs : Nat → Int32} (hX : X.2.2.2.2 = some (L, xs)) {d' : Nat} {Q' : Int32 → Hp → Prop} (b0 : vp_in (v3 + 1) L) (hdd : d' < d) (hC : CI d' 246 [.ref 84, .int (xs (Int32.toNatClampNeg (v3 + 1)))] h Q') (kk : ∀ x h', Q' x h' → G X d 295 873 [some (.ref 999), some (.ref 0), some (.ref 84), some (.int v3)] [.int x, .int s0] h') : G X d 295 864 [some (.ref 999), some (.ref 0), some (.ref 84), some (.int v3)] [.int s0] h := by
  refine g_aload_n d_295_864 rfl rfl ?_
  refine g_aload_n d_295_865 rfl rfl ?_
  refine g_iload_n d_295_866 rfl rfl ?_
  refine g_iconst (v := 1) d_295_867 (by decide) ?_
  refine g_iadd d_295_868 ?_
  refine g_sld hX d_295_869 b0 ?_
  exact g_callVI (mj := 246) 9 [.int (xs (Int32.toNatClampNeg (v3 + 1)))] [.int s0] d_295_870 wd_496 mo_246 mc_246 mv_246 rfl rfl rfl (Nat.le_of_ble_eq_true rfl) rfl hdd hC kk

theorem k_295_873 {X : GX} {d : Nat} {h : Hp} {v3 : Int32} {s0 : Int32} {s1 : Int32} {L : Nat} {xs : Nat → Int32} (hX : X.2.2.2.2 = some (L, xs)) (kt : s1 = s0 → G X d 295 1735 [some (.ref 999), some (.ref 0), some (.ref 84), some (.int v3)] [] h) (kf : ¬ s1 = s0 → G X d 295 876 [none, none, none, none] [] h) : G X d 295 873 [some (.ref 999), some (.ref 0), some (.ref 84), some (.int v3)] [.int s0, .int s1] h := by
  exact g_icmp_eq (tgt := 1735) d_295_873 (by decide) kt (fun q => g_mask [false, false, false, false] (kf q))

theorem k_295_876 {X : GX} {d : Nat} {h : Hp} {L : Nat} {xs : Nat → Int32} (hX : X.2.2.2.2 = some (L, xs)) (hq : RtX X (some (.int 0)) h) : G X d 295 876 [none, none, none, none] [] h := by
  refine g_iconst (v := 0) d_295_876 (by decide) ?_
  exact g_retz d_295_877 rfl z01_0 hq

theorem k_295_878 {X : GX} {d : Nat} {h : Hp} {v3 : Int32} {L : Nat} {xs : Nat → Int32} (hX : X.2.2.2.2 = some (L, xs)) {d' : Nat} {Q' : Int32 → Hp → Prop} (b0 : vp_in (v3 + 1) L) (b1 : vp_in (v3 + 2) L) (hdd : d' < d) (hC : CI d' 113 [.ref 0, .int (xs (Int32.toNatClampNeg (v3 + 1))), .int (xs (Int32.toNatClampNeg (v3 + 2)))] h Q') (kk : ∀ x h', Q' x h' → G X d 295 892 [some (.ref 999), some (.ref 0), some (.ref 84), some (.int v3)] [.int x] h') : G X d 295 878 [some (.ref 999), some (.ref 0), some (.ref 84), some (.int v3)] [] h := by
  refine g_aload_n d_295_878 rfl rfl ?_
  refine g_aload_n d_295_879 rfl rfl ?_
  refine g_iload_n d_295_880 rfl rfl ?_
  refine g_iconst (v := 1) d_295_881 (by decide) ?_
  refine g_iadd d_295_882 ?_
  refine g_sld hX d_295_883 b0 ?_
  refine g_aload_n d_295_884 rfl rfl ?_
  refine g_iload_n d_295_885 rfl rfl ?_
  refine g_iconst (v := 2) d_295_886 (by decide) ?_
  refine g_iadd d_295_887 ?_
  refine g_sld hX d_295_888 b1 ?_
  exact g_callVI (mj := 113) 8 [.int (xs (Int32.toNatClampNeg (v3 + 1))), .int (xs (Int32.toNatClampNeg (v3 + 2)))] [] d_295_889 wd_273 mo_113 mc_113 mv_113 rfl rfl rfl (Nat.le_of_ble_eq_true rfl) rfl hdd hC kk

theorem k_295_892 {X : GX} {d : Nat} {h : Hp} {v3 : Int32} {s0 : Int32} {L : Nat} {xs : Nat → Int32} (hX : X.2.2.2.2 = some (L, xs)) {d' : Nat} {Q' : Int32 → Hp → Prop} (b0 : vp_in (v3 + 1) L) (b1 : vp_in (v3 + 2) L) (hdd : d' < d) (hC : CI d' 252 [.ref 84, .int (xs (Int32.toNatClampNeg (v3 + 1))), .int (xs (Int32.toNatClampNeg (v3 + 2)))] h Q') (kk : ∀ x h', Q' x h' → G X d 295 906 [some (.ref 999), some (.ref 0), some (.ref 84), some (.int v3)] [.int x, .int s0] h') : G X d 295 892 [some (.ref 999), some (.ref 0), some (.ref 84), some (.int v3)] [.int s0] h := by
  refine g_aload_n d_295_892 rfl rfl ?_
  refine g_aload_n d_295_893 rfl rfl ?_
  refine g_iload_n d_295_894 rfl rfl ?_
  refine g_iconst (v := 1) d_295_895 (by decide) ?_
  refine g_iadd d_295_896 ?_
  refine g_sld hX d_295_897 b0 ?_
  refine g_aload_n d_295_898 rfl rfl ?_
  refine g_iload_n d_295_899 rfl rfl ?_
  refine g_iconst (v := 2) d_295_900 (by decide) ?_
  refine g_iadd d_295_901 ?_
  refine g_sld hX d_295_902 b1 ?_
  exact g_callVI (mj := 252) 9 [.int (xs (Int32.toNatClampNeg (v3 + 1))), .int (xs (Int32.toNatClampNeg (v3 + 2)))] [.int s0] d_295_903 wd_503 mo_252 mc_252 mv_252 rfl rfl rfl (Nat.le_of_ble_eq_true rfl) rfl hdd hC kk

theorem k_295_906 {X : GX} {d : Nat} {h : Hp} {v3 : Int32} {s0 : Int32} {s1 : Int32} {L : Nat} {xs : Nat → Int32} (hX : X.2.2.2.2 = some (L, xs)) (kt : s1 = s0 → G X d 295 1735 [some (.ref 999), some (.ref 0), some (.ref 84), some (.int v3)] [] h) (kf : ¬ s1 = s0 → G X d 295 909 [none, none, none, none] [] h) : G X d 295 906 [some (.ref 999), some (.ref 0), some (.ref 84), some (.int v3)] [.int s0, .int s1] h := by
  exact g_icmp_eq (tgt := 1735) d_295_906 (by decide) kt (fun q => g_mask [false, false, false, false] (kf q))

theorem k_295_909 {X : GX} {d : Nat} {h : Hp} {L : Nat} {xs : Nat → Int32} (hX : X.2.2.2.2 = some (L, xs)) (hq : RtX X (some (.int 0)) h) : G X d 295 909 [none, none, none, none] [] h := by
  refine g_iconst (v := 0) d_295_909 (by decide) ?_
  exact g_retz d_295_910 rfl z01_0 hq

theorem k_295_911 {X : GX} {d : Nat} {h : Hp} {v3 : Int32} {L : Nat} {xs : Nat → Int32} (hX : X.2.2.2.2 = some (L, xs)) {d' : Nat} {Q' : Int32 → Hp → Prop} (b0 : vp_in (v3 + 1) L) (hdd : d' < d) (hC : CI d' 114 [.ref 0, .int (xs (Int32.toNatClampNeg (v3 + 1)))] h Q') (kk : ∀ x h', Q' x h' → G X d 295 920 [some (.ref 999), some (.ref 0), some (.ref 84), some (.int v3)] [.int x] h') : G X d 295 911 [some (.ref 999), some (.ref 0), some (.ref 84), some (.int v3)] [] h := by
  refine g_aload_n d_295_911 rfl rfl ?_
  refine g_aload_n d_295_912 rfl rfl ?_
  refine g_iload_n d_295_913 rfl rfl ?_
  refine g_iconst (v := 1) d_295_914 (by decide) ?_
  refine g_iadd d_295_915 ?_
  refine g_sld hX d_295_916 b0 ?_
  exact g_callVI (mj := 114) 8 [.int (xs (Int32.toNatClampNeg (v3 + 1)))] [] d_295_917 wd_274 mo_114 mc_114 mv_114 rfl rfl rfl (Nat.le_of_ble_eq_true rfl) rfl hdd hC kk

theorem k_295_920 {X : GX} {d : Nat} {h : Hp} {v3 : Int32} {s0 : Int32} {L : Nat} {xs : Nat → Int32} (hX : X.2.2.2.2 = some (L, xs)) {d' : Nat} {Q' : Int32 → Hp → Prop} (b0 : vp_in (v3 + 1) L) (hdd : d' < d) (hC : CI d' 253 [.ref 84, .int (xs (Int32.toNatClampNeg (v3 + 1)))] h Q') (kk : ∀ x h', Q' x h' → G X d 295 929 [some (.ref 999), some (.ref 0), some (.ref 84), some (.int v3)] [.int x, .int s0] h') : G X d 295 920 [some (.ref 999), some (.ref 0), some (.ref 84), some (.int v3)] [.int s0] h := by
  refine g_aload_n d_295_920 rfl rfl ?_
  refine g_aload_n d_295_921 rfl rfl ?_
  refine g_iload_n d_295_922 rfl rfl ?_
  refine g_iconst (v := 1) d_295_923 (by decide) ?_
  refine g_iadd d_295_924 ?_
  refine g_sld hX d_295_925 b0 ?_
  exact g_callVI (mj := 253) 9 [.int (xs (Int32.toNatClampNeg (v3 + 1)))] [.int s0] d_295_926 wd_505 mo_253 mc_253 mv_253 rfl rfl rfl (Nat.le_of_ble_eq_true rfl) rfl hdd hC kk

theorem k_295_929 {X : GX} {d : Nat} {h : Hp} {v3 : Int32} {s0 : Int32} {s1 : Int32} {L : Nat} {xs : Nat → Int32} (hX : X.2.2.2.2 = some (L, xs)) (kt : s1 = s0 → G X d 295 1735 [some (.ref 999), some (.ref 0), some (.ref 84), some (.int v3)] [] h) (kf : ¬ s1 = s0 → G X d 295 932 [none, none, none, none] [] h) : G X d 295 929 [some (.ref 999), some (.ref 0), some (.ref 84), some (.int v3)] [.int s0, .int s1] h := by
  exact g_icmp_eq (tgt := 1735) d_295_929 (by decide) kt (fun q => g_mask [false, false, false, false] (kf q))

theorem k_295_932 {X : GX} {d : Nat} {h : Hp} {L : Nat} {xs : Nat → Int32} (hX : X.2.2.2.2 = some (L, xs)) (hq : RtX X (some (.int 0)) h) : G X d 295 932 [none, none, none, none] [] h := by
  refine g_iconst (v := 0) d_295_932 (by decide) ?_
  exact g_retz d_295_933 rfl z01_0 hq

theorem k_295_934 {X : GX} {d : Nat} {h : Hp} {v3 : Int32} {L : Nat} {xs : Nat → Int32} (hX : X.2.2.2.2 = some (L, xs)) {d' : Nat} {Q' : Int32 → Hp → Prop} (b0 : vp_in (v3 + 1) L) (b1 : vp_in (v3 + 2) L) (hdd : d' < d) (hC : CI d' 115 [.ref 0, .int (xs (Int32.toNatClampNeg (v3 + 1))), .int (xs (Int32.toNatClampNeg (v3 + 2)))] h Q') (kk : ∀ x h', Q' x h' → G X d 295 948 [some (.ref 999), some (.ref 0), some (.ref 84), some (.int v3)] [.int x] h') : G X d 295 934 [some (.ref 999), some (.ref 0), some (.ref 84), some (.int v3)] [] h := by
  refine g_aload_n d_295_934 rfl rfl ?_
  refine g_aload_n d_295_935 rfl rfl ?_
  refine g_iload_n d_295_936 rfl rfl ?_
  refine g_iconst (v := 1) d_295_937 (by decide) ?_
  refine g_iadd d_295_938 ?_
  refine g_sld hX d_295_939 b0 ?_
  refine g_aload_n d_295_940 rfl rfl ?_
  refine g_iload_n d_295_941 rfl rfl ?_
  refine g_iconst (v := 2) d_295_942 (by decide) ?_
  refine g_iadd d_295_943 ?_
  refine g_sld hX d_295_944 b1 ?_
  exact g_callVI (mj := 115) 8 [.int (xs (Int32.toNatClampNeg (v3 + 1))), .int (xs (Int32.toNatClampNeg (v3 + 2)))] [] d_295_945 wd_275 mo_115 mc_115 mv_115 rfl rfl rfl (Nat.le_of_ble_eq_true rfl) rfl hdd hC kk

theorem k_295_948 {X : GX} {d : Nat} {h : Hp} {v3 : Int32} {s0 : Int32} {L : Nat} {xs : Nat → Int32} (hX : X.2.2.2.2 = some (L, xs)) {d' : Nat} {Q' : Int32 → Hp → Prop} (b0 : vp_in (v3 + 1) L) (b1 : vp_in (v3 + 2) L) (hdd : d' < d) (hC : CI d' 254 [.ref 84, .int (xs (Int32.toNatClampNeg (v3 + 1))), .int (xs (Int32.toNatClampNeg (v3 + 2)))] h Q') (kk : ∀ x h', Q' x h' → G X d 295 962 [some (.ref 999), some (.ref 0), some (.ref 84), some (.int v3)] [.int x, .int s0] h') : G X d 295 948 [some (.ref 999), some (.ref 0), some (.ref 84), some (.int v3)] [.int s0] h := by
  refine g_aload_n d_295_948 rfl rfl ?_
  refine g_aload_n d_295_949 rfl rfl ?_
  refine g_iload_n d_295_950 rfl rfl ?_
  refine g_iconst (v := 1) d_295_951 (by decide) ?_
  refine g_iadd d_295_952 ?_
  refine g_sld hX d_295_953 b0 ?_
  refine g_aload_n d_295_954 rfl rfl ?_
  refine g_iload_n d_295_955 rfl rfl ?_
  refine g_iconst (v := 2) d_295_956 (by decide) ?_
  refine g_iadd d_295_957 ?_
  refine g_sld hX d_295_958 b1 ?_
  exact g_callVI (mj := 254) 9 [.int (xs (Int32.toNatClampNeg (v3 + 1))), .int (xs (Int32.toNatClampNeg (v3 + 2)))] [.int s0] d_295_959 wd_506 mo_254 mc_254 mv_254 rfl rfl rfl (Nat.le_of_ble_eq_true rfl) rfl hdd hC kk

theorem k_295_962 {X : GX} {d : Nat} {h : Hp} {v3 : Int32} {s0 : Int32} {s1 : Int32} {L : Nat} {xs : Nat → Int32} (hX : X.2.2.2.2 = some (L, xs)) (kt : s1 = s0 → G X d 295 1735 [some (.ref 999), some (.ref 0), some (.ref 84), some (.int v3)] [] h) (kf : ¬ s1 = s0 → G X d 295 965 [none, none, none, none] [] h) : G X d 295 962 [some (.ref 999), some (.ref 0), some (.ref 84), some (.int v3)] [.int s0, .int s1] h := by
  exact g_icmp_eq (tgt := 1735) d_295_962 (by decide) kt (fun q => g_mask [false, false, false, false] (kf q))

theorem k_295_965 {X : GX} {d : Nat} {h : Hp} {L : Nat} {xs : Nat → Int32} (hX : X.2.2.2.2 = some (L, xs)) (hq : RtX X (some (.int 0)) h) : G X d 295 965 [none, none, none, none] [] h := by
  refine g_iconst (v := 0) d_295_965 (by decide) ?_
  exact g_retz d_295_966 rfl z01_0 hq

theorem k_295_967 {X : GX} {d : Nat} {h : Hp} {v3 : Int32} {L : Nat} {xs : Nat → Int32} (hX : X.2.2.2.2 = some (L, xs)) {d' : Nat} {Q' : Int32 → Hp → Prop} (b0 : vp_in (v3 + 1) L) (b1 : vp_in (v3 + 2) L) (hdd : d' < d) (hC : CI d' 117 [.ref 0, .int (xs (Int32.toNatClampNeg (v3 + 1))), .int (xs (Int32.toNatClampNeg (v3 + 2)))] h Q') (kk : ∀ x h', Q' x h' → G X d 295 981 [some (.ref 999), some (.ref 0), some (.ref 84), some (.int v3)] [.int x] h') : G X d 295 967 [some (.ref 999), some (.ref 0), some (.ref 84), some (.int v3)] [] h := by
  refine g_aload_n d_295_967 rfl rfl ?_
  refine g_aload_n d_295_968 rfl rfl ?_
  refine g_iload_n d_295_969 rfl rfl ?_
  refine g_iconst (v := 1) d_295_970 (by decide) ?_
  refine g_iadd d_295_971 ?_
  refine g_sld hX d_295_972 b0 ?_
  refine g_aload_n d_295_973 rfl rfl ?_
  refine g_iload_n d_295_974 rfl rfl ?_
  refine g_iconst (v := 2) d_295_975 (by decide) ?_
  refine g_iadd d_295_976 ?_
  refine g_sld hX d_295_977 b1 ?_
  exact g_callVI (mj := 117) 8 [.int (xs (Int32.toNatClampNeg (v3 + 1))), .int (xs (Int32.toNatClampNeg (v3 + 2)))] [] d_295_978 wd_277 mo_117 mc_117 mv_117 rfl rfl rfl (Nat.le_of_ble_eq_true rfl) rfl hdd hC kk

theorem k_295_981 {X : GX} {d : Nat} {h : Hp} {v3 : Int32} {s0 : Int32} {L : Nat} {xs : Nat → Int32} (hX : X.2.2.2.2 = some (L, xs)) {d' : Nat} {Q' : Int32 → Hp → Prop} (b0 : vp_in (v3 + 1) L) (b1 : vp_in (v3 + 2) L) (hdd : d' < d) (hC : CI d' 257 [.ref 84, .int (xs (Int32.toNatClampNeg (v3 + 1))), .int (xs (Int32.toNatClampNeg (v3 + 2)))] h Q') (kk : ∀ x h', Q' x h' → G X d 295 995 [some (.ref 999), some (.ref 0), some (.ref 84), some (.int v3)] [.int x, .int s0] h') : G X d 295 981 [some (.ref 999), some (.ref 0), some (.ref 84), some (.int v3)] [.int s0] h := by
  refine g_aload_n d_295_981 rfl rfl ?_
  refine g_aload_n d_295_982 rfl rfl ?_
  refine g_iload_n d_295_983 rfl rfl ?_
  refine g_iconst (v := 1) d_295_984 (by decide) ?_
  refine g_iadd d_295_985 ?_
  refine g_sld hX d_295_986 b0 ?_
  refine g_aload_n d_295_987 rfl rfl ?_
  refine g_iload_n d_295_988 rfl rfl ?_
  refine g_iconst (v := 2) d_295_989 (by decide) ?_
  refine g_iadd d_295_990 ?_
  refine g_sld hX d_295_991 b1 ?_
  exact g_callVI (mj := 257) 9 [.int (xs (Int32.toNatClampNeg (v3 + 1))), .int (xs (Int32.toNatClampNeg (v3 + 2)))] [.int s0] d_295_992 wd_509 mo_257 mc_257 mv_257 rfl rfl rfl (Nat.le_of_ble_eq_true rfl) rfl hdd hC kk

theorem k_295_995 {X : GX} {d : Nat} {h : Hp} {v3 : Int32} {s0 : Int32} {s1 : Int32} {L : Nat} {xs : Nat → Int32} (hX : X.2.2.2.2 = some (L, xs)) (kt : s1 = s0 → G X d 295 1735 [some (.ref 999), some (.ref 0), some (.ref 84), some (.int v3)] [] h) (kf : ¬ s1 = s0 → G X d 295 998 [none, none, none, none] [] h) : G X d 295 995 [some (.ref 999), some (.ref 0), some (.ref 84), some (.int v3)] [.int s0, .int s1] h := by
  exact g_icmp_eq (tgt := 1735) d_295_995 (by decide) kt (fun q => g_mask [false, false, false, false] (kf q))

theorem k_295_998 {X : GX} {d : Nat} {h : Hp} {L : Nat} {xs : Nat → Int32} (hX : X.2.2.2.2 = some (L, xs)) (hq : RtX X (some (.int 0)) h) : G X d 295 998 [none, none, none, none] [] h := by
  refine g_iconst (v := 0) d_295_998 (by decide) ?_
  exact g_retz d_295_999 rfl z01_0 hq

theorem k_295_1000 {X : GX} {d : Nat} {h : Hp} {v3 : Int32} {L : Nat} {xs : Nat → Int32} (hX : X.2.2.2.2 = some (L, xs)) {d' : Nat} {Q' : Int32 → Hp → Prop} (b0 : vp_in (v3 + 1) L) (hdd : d' < d) (hC : CI d' 119 [.ref 0, .int (xs (Int32.toNatClampNeg (v3 + 1)))] h Q') (kk : ∀ x h', Q' x h' → G X d 295 1009 [some (.ref 999), some (.ref 0), some (.ref 84), some (.int v3)] [.int x] h') : G X d 295 1000 [some (.ref 999), some (.ref 0), some (.ref 84), some (.int v3)] [] h := by
  refine g_aload_n d_295_1000 rfl rfl ?_
  refine g_aload_n d_295_1001 rfl rfl ?_
  refine g_iload_n d_295_1002 rfl rfl ?_
  refine g_iconst (v := 1) d_295_1003 (by decide) ?_
  refine g_iadd d_295_1004 ?_
  refine g_sld hX d_295_1005 b0 ?_
  exact g_callVI (mj := 119) 8 [.int (xs (Int32.toNatClampNeg (v3 + 1)))] [] d_295_1006 wd_279 mo_119 mc_119 mv_119 rfl rfl rfl (Nat.le_of_ble_eq_true rfl) rfl hdd hC kk

theorem k_295_1009 {X : GX} {d : Nat} {h : Hp} {v3 : Int32} {s0 : Int32} {L : Nat} {xs : Nat → Int32} (hX : X.2.2.2.2 = some (L, xs)) {d' : Nat} {Q' : Int32 → Hp → Prop} (b0 : vp_in (v3 + 1) L) (hdd : d' < d) (hC : CI d' 258 [.ref 84, .int (xs (Int32.toNatClampNeg (v3 + 1)))] h Q') (kk : ∀ x h', Q' x h' → G X d 295 1018 [some (.ref 999), some (.ref 0), some (.ref 84), some (.int v3)] [.int x, .int s0] h') : G X d 295 1009 [some (.ref 999), some (.ref 0), some (.ref 84), some (.int v3)] [.int s0] h := by
  refine g_aload_n d_295_1009 rfl rfl ?_
  refine g_aload_n d_295_1010 rfl rfl ?_
  refine g_iload_n d_295_1011 rfl rfl ?_
  refine g_iconst (v := 1) d_295_1012 (by decide) ?_
  refine g_iadd d_295_1013 ?_
  refine g_sld hX d_295_1014 b0 ?_
  exact g_callVI (mj := 258) 9 [.int (xs (Int32.toNatClampNeg (v3 + 1)))] [.int s0] d_295_1015 wd_510 mo_258 mc_258 mv_258 rfl rfl rfl (Nat.le_of_ble_eq_true rfl) rfl hdd hC kk

theorem k_295_1018 {X : GX} {d : Nat} {h : Hp} {v3 : Int32} {s0 : Int32} {s1 : Int32} {L : Nat} {xs : Nat → Int32} (hX : X.2.2.2.2 = some (L, xs)) (kt : s1 = s0 → G X d 295 1735 [some (.ref 999), some (.ref 0), some (.ref 84), some (.int v3)] [] h) (kf : ¬ s1 = s0 → G X d 295 1021 [none, none, none, none] [] h) : G X d 295 1018 [some (.ref 999), some (.ref 0), some (.ref 84), some (.int v3)] [.int s0, .int s1] h := by
  exact g_icmp_eq (tgt := 1735) d_295_1018 (by decide) kt (fun q => g_mask [false, false, false, false] (kf q))

theorem k_295_1021 {X : GX} {d : Nat} {h : Hp} {L : Nat} {xs : Nat → Int32} (hX : X.2.2.2.2 = some (L, xs)) (hq : RtX X (some (.int 0)) h) : G X d 295 1021 [none, none, none, none] [] h := by
  refine g_iconst (v := 0) d_295_1021 (by decide) ?_
  exact g_retz d_295_1022 rfl z01_0 hq

theorem k_295_1023 {X : GX} {d : Nat} {h : Hp} {v3 : Int32} {L : Nat} {xs : Nat → Int32} (hX : X.2.2.2.2 = some (L, xs)) {d' : Nat} {Q' : Int32 → Hp → Prop} (b0 : vp_in (v3 + 1) L) (hdd : d' < d) (hC : CI d' 122 [.ref 0, .int (xs (Int32.toNatClampNeg (v3 + 1)))] h Q') (kk : ∀ x h', Q' x h' → G X d 295 1032 [some (.ref 999), some (.ref 0), some (.ref 84), some (.int v3)] [.int x] h') : G X d 295 1023 [some (.ref 999), some (.ref 0), some (.ref 84), some (.int v3)] [] h := by
  refine g_aload_n d_295_1023 rfl rfl ?_
  refine g_aload_n d_295_1024 rfl rfl ?_
  refine g_iload_n d_295_1025 rfl rfl ?_
  refine g_iconst (v := 1) d_295_1026 (by decide) ?_
  refine g_iadd d_295_1027 ?_
  refine g_sld hX d_295_1028 b0 ?_
  exact g_callVI (mj := 122) 8 [.int (xs (Int32.toNatClampNeg (v3 + 1)))] [] d_295_1029 wd_282 mo_122 mc_122 mv_122 rfl rfl rfl (Nat.le_of_ble_eq_true rfl) rfl hdd hC kk

theorem k_295_1032 {X : GX} {d : Nat} {h : Hp} {v3 : Int32} {s0 : Int32} {L : Nat} {xs : Nat → Int32} (hX : X.2.2.2.2 = some (L, xs)) {d' : Nat} {Q' : Int32 → Hp → Prop} (b0 : vp_in (v3 + 1) L) (hdd : d' < d) (hC : CI d' 260 [.ref 84, .int (xs (Int32.toNatClampNeg (v3 + 1)))] h Q') (kk : ∀ x h', Q' x h' → G X d 295 1041 [some (.ref 999), some (.ref 0), some (.ref 84), some (.int v3)] [.int x, .int s0] h') : G X d 295 1032 [some (.ref 999), some (.ref 0), some (.ref 84), some (.int v3)] [.int s0] h := by
  refine g_aload_n d_295_1032 rfl rfl ?_
  refine g_aload_n d_295_1033 rfl rfl ?_
  refine g_iload_n d_295_1034 rfl rfl ?_
  refine g_iconst (v := 1) d_295_1035 (by decide) ?_
  refine g_iadd d_295_1036 ?_
  refine g_sld hX d_295_1037 b0 ?_
  exact g_callVI (mj := 260) 9 [.int (xs (Int32.toNatClampNeg (v3 + 1)))] [.int s0] d_295_1038 wd_513 mo_260 mc_260 mv_260 rfl rfl rfl (Nat.le_of_ble_eq_true rfl) rfl hdd hC kk

theorem k_295_1041 {X : GX} {d : Nat} {h : Hp} {v3 : Int32} {s0 : Int32} {s1 : Int32} {L : Nat} {xs : Nat → Int32} (hX : X.2.2.2.2 = some (L, xs)) (kt : s1 = s0 → G X d 295 1735 [some (.ref 999), some (.ref 0), some (.ref 84), some (.int v3)] [] h) (kf : ¬ s1 = s0 → G X d 295 1044 [none, none, none, none] [] h) : G X d 295 1041 [some (.ref 999), some (.ref 0), some (.ref 84), some (.int v3)] [.int s0, .int s1] h := by
  exact g_icmp_eq (tgt := 1735) d_295_1041 (by decide) kt (fun q => g_mask [false, false, false, false] (kf q))

theorem k_295_1044 {X : GX} {d : Nat} {h : Hp} {L : Nat} {xs : Nat → Int32} (hX : X.2.2.2.2 = some (L, xs)) (hq : RtX X (some (.int 0)) h) : G X d 295 1044 [none, none, none, none] [] h := by
  refine g_iconst (v := 0) d_295_1044 (by decide) ?_
  exact g_retz d_295_1045 rfl z01_0 hq

theorem k_295_1046 {X : GX} {d : Nat} {h : Hp} {v3 : Int32} {L : Nat} {xs : Nat → Int32} (hX : X.2.2.2.2 = some (L, xs)) {d' : Nat} {Q' : Int32 → Hp → Prop} (b0 : vp_in (v3 + 1) L) (b1 : vp_in (v3 + 2) L) (b2 : vp_in (v3 + 3) L) (b3 : vp_in (v3 + 4) L) (hdd : d' < d) (hC : CI d' 123 [.ref 0, .int (xs (Int32.toNatClampNeg (v3 + 1))), .int (xs (Int32.toNatClampNeg (v3 + 2))), .int (xs (Int32.toNatClampNeg (v3 + 3))), .int (xs (Int32.toNatClampNeg (v3 + 4)))] h Q') (kk : ∀ x h', Q' x h' → G X d 295 1070 [some (.ref 999), some (.ref 0), some (.ref 84), some (.int v3)] [.int x] h') : G X d 295 1046 [some (.ref 999), some (.ref 0), some (.ref 84), some (.int v3)] [] h := by
  refine g_aload_n d_295_1046 rfl rfl ?_
  refine g_aload_n d_295_1047 rfl rfl ?_
  refine g_iload_n d_295_1048 rfl rfl ?_
  refine g_iconst (v := 1) d_295_1049 (by decide) ?_
  refine g_iadd d_295_1050 ?_
  refine g_sld hX d_295_1051 b0 ?_
  refine g_aload_n d_295_1052 rfl rfl ?_
  refine g_iload_n d_295_1053 rfl rfl ?_
  refine g_iconst (v := 2) d_295_1054 (by decide) ?_
  refine g_iadd d_295_1055 ?_
  refine g_sld hX d_295_1056 b1 ?_
  refine g_aload_n d_295_1057 rfl rfl ?_
  refine g_iload_n d_295_1058 rfl rfl ?_
  refine g_iconst (v := 3) d_295_1059 (by decide) ?_
  refine g_iadd d_295_1060 ?_
  refine g_sld hX d_295_1061 b2 ?_
  refine g_aload_n d_295_1062 rfl rfl ?_
  refine g_iload_n d_295_1063 rfl rfl ?_
  refine g_iconst (v := 4) d_295_1064 (by decide) ?_
  refine g_iadd d_295_1065 ?_
  refine g_sld hX d_295_1066 b3 ?_
  exact g_callVI (mj := 123) 8 [.int (xs (Int32.toNatClampNeg (v3 + 1))), .int (xs (Int32.toNatClampNeg (v3 + 2))), .int (xs (Int32.toNatClampNeg (v3 + 3))), .int (xs (Int32.toNatClampNeg (v3 + 4)))] [] d_295_1067 wd_283 mo_123 mc_123 mv_123 rfl rfl rfl (Nat.le_of_ble_eq_true rfl) rfl hdd hC kk

theorem k_295_1070 {X : GX} {d : Nat} {h : Hp} {v3 : Int32} {s0 : Int32} {L : Nat} {xs : Nat → Int32} (hX : X.2.2.2.2 = some (L, xs)) {d' : Nat} {Q' : Int32 → Hp → Prop} (b0 : vp_in (v3 + 1) L) (b1 : vp_in (v3 + 2) L) (b2 : vp_in (v3 + 3) L) (b3 : vp_in (v3 + 4) L) (hdd : d' < d) (hC : CI d' 261 [.ref 84, .int (xs (Int32.toNatClampNeg (v3 + 1))), .int (xs (Int32.toNatClampNeg (v3 + 2))), .int (xs (Int32.toNatClampNeg (v3 + 3))), .int (xs (Int32.toNatClampNeg (v3 + 4)))] h Q') (kk : ∀ x h', Q' x h' → G X d 295 1094 [some (.ref 999), some (.ref 0), some (.ref 84), some (.int v3)] [.int x, .int s0] h') : G X d 295 1070 [some (.ref 999), some (.ref 0), some (.ref 84), some (.int v3)] [.int s0] h := by
  refine g_aload_n d_295_1070 rfl rfl ?_
  refine g_aload_n d_295_1071 rfl rfl ?_
  refine g_iload_n d_295_1072 rfl rfl ?_
  refine g_iconst (v := 1) d_295_1073 (by decide) ?_
  refine g_iadd d_295_1074 ?_
  refine g_sld hX d_295_1075 b0 ?_
  refine g_aload_n d_295_1076 rfl rfl ?_
  refine g_iload_n d_295_1077 rfl rfl ?_
  refine g_iconst (v := 2) d_295_1078 (by decide) ?_
  refine g_iadd d_295_1079 ?_
  refine g_sld hX d_295_1080 b1 ?_
  refine g_aload_n d_295_1081 rfl rfl ?_
  refine g_iload_n d_295_1082 rfl rfl ?_
  refine g_iconst (v := 3) d_295_1083 (by decide) ?_
  refine g_iadd d_295_1084 ?_
  refine g_sld hX d_295_1085 b2 ?_
  refine g_aload_n d_295_1086 rfl rfl ?_
  refine g_iload_n d_295_1087 rfl rfl ?_
  refine g_iconst (v := 4) d_295_1088 (by decide) ?_
  refine g_iadd d_295_1089 ?_
  refine g_sld hX d_295_1090 b3 ?_
  exact g_callVI (mj := 261) 9 [.int (xs (Int32.toNatClampNeg (v3 + 1))), .int (xs (Int32.toNatClampNeg (v3 + 2))), .int (xs (Int32.toNatClampNeg (v3 + 3))), .int (xs (Int32.toNatClampNeg (v3 + 4)))] [.int s0] d_295_1091 wd_514 mo_261 mc_261 mv_261 rfl rfl rfl (Nat.le_of_ble_eq_true rfl) rfl hdd hC kk

theorem k_295_1094 {X : GX} {d : Nat} {h : Hp} {v3 : Int32} {s0 : Int32} {s1 : Int32} {L : Nat} {xs : Nat → Int32} (hX : X.2.2.2.2 = some (L, xs)) (kt : s1 = s0 → G X d 295 1735 [some (.ref 999), some (.ref 0), some (.ref 84), some (.int v3)] [] h) (kf : ¬ s1 = s0 → G X d 295 1097 [none, none, none, none] [] h) : G X d 295 1094 [some (.ref 999), some (.ref 0), some (.ref 84), some (.int v3)] [.int s0, .int s1] h := by
  exact g_icmp_eq (tgt := 1735) d_295_1094 (by decide) kt (fun q => g_mask [false, false, false, false] (kf q))

theorem k_295_1097 {X : GX} {d : Nat} {h : Hp} {L : Nat} {xs : Nat → Int32} (hX : X.2.2.2.2 = some (L, xs)) (hq : RtX X (some (.int 0)) h) : G X d 295 1097 [none, none, none, none] [] h := by
  refine g_iconst (v := 0) d_295_1097 (by decide) ?_
  exact g_retz d_295_1098 rfl z01_0 hq

theorem k_295_1099 {X : GX} {d : Nat} {h : Hp} {v3 : Int32} {L : Nat} {xs : Nat → Int32} (hX : X.2.2.2.2 = some (L, xs)) {d' : Nat} {Q' : Int32 → Hp → Prop} (hdd : d' < d) (hC : CI d' 125 [.ref 0] h Q') (kk : ∀ x h', Q' x h' → G X d 295 1103 [some (.ref 999), some (.ref 0), some (.ref 84), some (.int v3)] [.int x] h') : G X d 295 1099 [some (.ref 999), some (.ref 0), some (.ref 84), some (.int v3)] [] h := by
  refine g_aload_n d_295_1099 rfl rfl ?_
  exact g_callVI (mj := 125) 8 [] [] d_295_1100 wd_285 mo_125 mc_125 mv_125 rfl rfl rfl (Nat.le_of_ble_eq_true rfl) rfl hdd hC kk

theorem k_295_1103 {X : GX} {d : Nat} {h : Hp} {v3 : Int32} {s0 : Int32} {L : Nat} {xs : Nat → Int32} (hX : X.2.2.2.2 = some (L, xs)) {d' : Nat} {Q' : Int32 → Hp → Prop} (hdd : d' < d) (hC : CI d' 262 [.ref 84] h Q') (kk : ∀ x h', Q' x h' → G X d 295 1107 [some (.ref 999), some (.ref 0), some (.ref 84), some (.int v3)] [.int x, .int s0] h') : G X d 295 1103 [some (.ref 999), some (.ref 0), some (.ref 84), some (.int v3)] [.int s0] h := by
  refine g_aload_n d_295_1103 rfl rfl ?_
  exact g_callVI (mj := 262) 9 [] [.int s0] d_295_1104 wd_515 mo_262 mc_262 mv_262 rfl rfl rfl (Nat.le_of_ble_eq_true rfl) rfl hdd hC kk

theorem k_295_1107 {X : GX} {d : Nat} {h : Hp} {v3 : Int32} {s0 : Int32} {s1 : Int32} {L : Nat} {xs : Nat → Int32} (hX : X.2.2.2.2 = some (L, xs)) (kt : s1 = s0 → G X d 295 1735 [some (.ref 999), some (.ref 0), some (.ref 84), some (.int v3)] [] h) (kf : ¬ s1 = s0 → G X d 295 1110 [none, none, none, none] [] h) : G X d 295 1107 [some (.ref 999), some (.ref 0), some (.ref 84), some (.int v3)] [.int s0, .int s1] h := by
  exact g_icmp_eq (tgt := 1735) d_295_1107 (by decide) kt (fun q => g_mask [false, false, false, false] (kf q))

theorem k_295_1110 {X : GX} {d : Nat} {h : Hp} {L : Nat} {xs : Nat → Int32} (hX : X.2.2.2.2 = some (L, xs)) (hq : RtX X (some (.int 0)) h) : G X d 295 1110 [none, none, none, none] [] h := by
  refine g_iconst (v := 0) d_295_1110 (by decide) ?_
  exact g_retz d_295_1111 rfl z01_0 hq

theorem k_295_1112 {X : GX} {d : Nat} {h : Hp} {v3 : Int32} {L : Nat} {xs : Nat → Int32} (hX : X.2.2.2.2 = some (L, xs)) {d' : Nat} {Q' : Int32 → Hp → Prop} (b0 : vp_in (v3 + 1) L) (hdd : d' < d) (hC : CI d' 126 [.ref 0, .int (xs (Int32.toNatClampNeg (v3 + 1)))] h Q') (kk : ∀ x h', Q' x h' → G X d 295 1121 [some (.ref 999), some (.ref 0), some (.ref 84), some (.int v3)] [.int x] h') : G X d 295 1112 [some (.ref 999), some (.ref 0), some (.ref 84), some (.int v3)] [] h := by
  refine g_aload_n d_295_1112 rfl rfl ?_
  refine g_aload_n d_295_1113 rfl rfl ?_
  refine g_iload_n d_295_1114 rfl rfl ?_
  refine g_iconst (v := 1) d_295_1115 (by decide) ?_
  refine g_iadd d_295_1116 ?_
  refine g_sld hX d_295_1117 b0 ?_
  exact g_callVI (mj := 126) 8 [.int (xs (Int32.toNatClampNeg (v3 + 1)))] [] d_295_1118 wd_286 mo_126 mc_126 mv_126 rfl rfl rfl (Nat.le_of_ble_eq_true rfl) rfl hdd hC kk

theorem k_295_1121 {X : GX} {d : Nat} {h : Hp} {v3 : Int32} {s0 : Int32} {L : Nat} {xs : Nat → Int32} (hX : X.2.2.2.2 = some (L, xs)) {d' : Nat} {Q' : Int32 → Hp → Prop} (b0 : vp_in (v3 + 1) L) (hdd : d' < d) (hC : CI d' 263 [.ref 84, .int (xs (Int32.toNatClampNeg (v3 + 1)))] h Q') (kk : ∀ x h', Q' x h' → G X d 295 1130 [some (.ref 999), some (.ref 0), some (.ref 84), some (.int v3)] [.int x, .int s0] h') : G X d 295 1121 [some (.ref 999), some (.ref 0), some (.ref 84), some (.int v3)] [.int s0] h := by
  refine g_aload_n d_295_1121 rfl rfl ?_
  refine g_aload_n d_295_1122 rfl rfl ?_
  refine g_iload_n d_295_1123 rfl rfl ?_
  refine g_iconst (v := 1) d_295_1124 (by decide) ?_
  refine g_iadd d_295_1125 ?_
  refine g_sld hX d_295_1126 b0 ?_
  exact g_callVI (mj := 263) 9 [.int (xs (Int32.toNatClampNeg (v3 + 1)))] [.int s0] d_295_1127 wd_516 mo_263 mc_263 mv_263 rfl rfl rfl (Nat.le_of_ble_eq_true rfl) rfl hdd hC kk

theorem k_295_1130 {X : GX} {d : Nat} {h : Hp} {v3 : Int32} {s0 : Int32} {s1 : Int32} {L : Nat} {xs : Nat → Int32} (hX : X.2.2.2.2 = some (L, xs)) (kt : s1 = s0 → G X d 295 1735 [some (.ref 999), some (.ref 0), some (.ref 84), some (.int v3)] [] h) (kf : ¬ s1 = s0 → G X d 295 1133 [none, none, none, none] [] h) : G X d 295 1130 [some (.ref 999), some (.ref 0), some (.ref 84), some (.int v3)] [.int s0, .int s1] h := by
  exact g_icmp_eq (tgt := 1735) d_295_1130 (by decide) kt (fun q => g_mask [false, false, false, false] (kf q))

theorem k_295_1133 {X : GX} {d : Nat} {h : Hp} {L : Nat} {xs : Nat → Int32} (hX : X.2.2.2.2 = some (L, xs)) (hq : RtX X (some (.int 0)) h) : G X d 295 1133 [none, none, none, none] [] h := by
  refine g_iconst (v := 0) d_295_1133 (by decide) ?_
  exact g_retz d_295_1134 rfl z01_0 hq

theorem k_295_1135 {X : GX} {d : Nat} {h : Hp} {v3 : Int32} {L : Nat} {xs : Nat → Int32} (hX : X.2.2.2.2 = some (L, xs)) {d' : Nat} {Q' : Int32 → Hp → Prop} (hdd : d' < d) (hC : CI d' 132 [.ref 0] h Q') (kk : ∀ x h', Q' x h' → G X d 295 1139 [some (.ref 999), some (.ref 0), some (.ref 84), some (.int v3)] [.int x] h') : G X d 295 1135 [some (.ref 999), some (.ref 0), some (.ref 84), some (.int v3)] [] h := by
  refine g_aload_n d_295_1135 rfl rfl ?_
  exact g_callVI (mj := 132) 8 [] [] d_295_1136 wd_298 mo_132 mc_132 mv_132 rfl rfl rfl (Nat.le_of_ble_eq_true rfl) rfl hdd hC kk

theorem k_295_1139 {X : GX} {d : Nat} {h : Hp} {v3 : Int32} {s0 : Int32} {L : Nat} {xs : Nat → Int32} (hX : X.2.2.2.2 = some (L, xs)) {d' : Nat} {Q' : Int32 → Hp → Prop} (hdd : d' < d) (hC : CI d' 266 [.ref 84] h Q') (kk : ∀ x h', Q' x h' → G X d 295 1143 [some (.ref 999), some (.ref 0), some (.ref 84), some (.int v3)] [.int x, .int s0] h') : G X d 295 1139 [some (.ref 999), some (.ref 0), some (.ref 84), some (.int v3)] [.int s0] h := by
  refine g_aload_n d_295_1139 rfl rfl ?_
  exact g_callVI (mj := 266) 9 [] [.int s0] d_295_1140 wd_519 mo_266 mc_266 mv_266 rfl rfl rfl (Nat.le_of_ble_eq_true rfl) rfl hdd hC kk

theorem k_295_1143 {X : GX} {d : Nat} {h : Hp} {v3 : Int32} {s0 : Int32} {s1 : Int32} {L : Nat} {xs : Nat → Int32} (hX : X.2.2.2.2 = some (L, xs)) (kt : s1 = s0 → G X d 295 1735 [some (.ref 999), some (.ref 0), some (.ref 84), some (.int v3)] [] h) (kf : ¬ s1 = s0 → G X d 295 1146 [none, none, none, none] [] h) : G X d 295 1143 [some (.ref 999), some (.ref 0), some (.ref 84), some (.int v3)] [.int s0, .int s1] h := by
  exact g_icmp_eq (tgt := 1735) d_295_1143 (by decide) kt (fun q => g_mask [false, false, false, false] (kf q))

theorem k_295_1146 {X : GX} {d : Nat} {h : Hp} {L : Nat} {xs : Nat → Int32} (hX : X.2.2.2.2 = some (L, xs)) (hq : RtX X (some (.int 0)) h) : G X d 295 1146 [none, none, none, none] [] h := by
  refine g_iconst (v := 0) d_295_1146 (by decide) ?_
  exact g_retz d_295_1147 rfl z01_0 hq

theorem k_295_1148 {X : GX} {d : Nat} {h : Hp} {v3 : Int32} {L : Nat} {xs : Nat → Int32} (hX : X.2.2.2.2 = some (L, xs)) {d' : Nat} {Q' : Int32 → Hp → Prop} (b0 : vp_in (v3 + 1) L) (hdd : d' < d) (hC : CI d' 133 [.ref 0, .int (xs (Int32.toNatClampNeg (v3 + 1)))] h Q') (kk : ∀ x h', Q' x h' → G X d 295 1157 [some (.ref 999), some (.ref 0), some (.ref 84), some (.int v3)] [.int x] h') : G X d 295 1148 [some (.ref 999), some (.ref 0), some (.ref 84), some (.int v3)] [] h := by
  refine g_aload_n d_295_1148 rfl rfl ?_
  refine g_aload_n d_295_1149 rfl rfl ?_
  refine g_iload_n d_295_1150 rfl rfl ?_
  refine g_iconst (v := 1) d_295_1151 (by decide) ?_
  refine g_iadd d_295_1152 ?_
  refine g_sld hX d_295_1153 b0 ?_
  exact g_callVI (mj := 133) 8 [.int (xs (Int32.toNatClampNeg (v3 + 1)))] [] d_295_1154 wd_299 mo_133 mc_133 mv_133 rfl rfl rfl (Nat.le_of_ble_eq_true rfl) rfl hdd hC kk

theorem k_295_1157 {X : GX} {d : Nat} {h : Hp} {v3 : Int32} {s0 : Int32} {L : Nat} {xs : Nat → Int32} (hX : X.2.2.2.2 = some (L, xs)) {d' : Nat} {Q' : Int32 → Hp → Prop} (b0 : vp_in (v3 + 1) L) (hdd : d' < d) (hC : CI d' 267 [.ref 84, .int (xs (Int32.toNatClampNeg (v3 + 1)))] h Q') (kk : ∀ x h', Q' x h' → G X d 295 1166 [some (.ref 999), some (.ref 0), some (.ref 84), some (.int v3)] [.int x, .int s0] h') : G X d 295 1157 [some (.ref 999), some (.ref 0), some (.ref 84), some (.int v3)] [.int s0] h := by
  refine g_aload_n d_295_1157 rfl rfl ?_
  refine g_aload_n d_295_1158 rfl rfl ?_
  refine g_iload_n d_295_1159 rfl rfl ?_
  refine g_iconst (v := 1) d_295_1160 (by decide) ?_
  refine g_iadd d_295_1161 ?_
  refine g_sld hX d_295_1162 b0 ?_
  exact g_callVI (mj := 267) 9 [.int (xs (Int32.toNatClampNeg (v3 + 1)))] [.int s0] d_295_1163 wd_520 mo_267 mc_267 mv_267 rfl rfl rfl (Nat.le_of_ble_eq_true rfl) rfl hdd hC kk

theorem k_295_1166 {X : GX} {d : Nat} {h : Hp} {v3 : Int32} {s0 : Int32} {s1 : Int32} {L : Nat} {xs : Nat → Int32} (hX : X.2.2.2.2 = some (L, xs)) (kt : s1 = s0 → G X d 295 1735 [some (.ref 999), some (.ref 0), some (.ref 84), some (.int v3)] [] h) (kf : ¬ s1 = s0 → G X d 295 1169 [none, none, none, none] [] h) : G X d 295 1166 [some (.ref 999), some (.ref 0), some (.ref 84), some (.int v3)] [.int s0, .int s1] h := by
  exact g_icmp_eq (tgt := 1735) d_295_1166 (by decide) kt (fun q => g_mask [false, false, false, false] (kf q))

theorem k_295_1169 {X : GX} {d : Nat} {h : Hp} {L : Nat} {xs : Nat → Int32} (hX : X.2.2.2.2 = some (L, xs)) (hq : RtX X (some (.int 0)) h) : G X d 295 1169 [none, none, none, none] [] h := by
  refine g_iconst (v := 0) d_295_1169 (by decide) ?_
  exact g_retz d_295_1170 rfl z01_0 hq

theorem k_295_1171 {X : GX} {d : Nat} {h : Hp} {v3 : Int32} {L : Nat} {xs : Nat → Int32} (hX : X.2.2.2.2 = some (L, xs)) {d' : Nat} {Q' : Int32 → Hp → Prop} (hdd : d' < d) (hC : CI d' 134 [.ref 0] h Q') (kk : ∀ x h', Q' x h' → G X d 295 1175 [some (.ref 999), some (.ref 0), some (.ref 84), some (.int v3)] [.int x] h') : G X d 295 1171 [some (.ref 999), some (.ref 0), some (.ref 84), some (.int v3)] [] h := by
  refine g_aload_n d_295_1171 rfl rfl ?_
  exact g_callVI (mj := 134) 8 [] [] d_295_1172 wd_300 mo_134 mc_134 mv_134 rfl rfl rfl (Nat.le_of_ble_eq_true rfl) rfl hdd hC kk

theorem k_295_1175 {X : GX} {d : Nat} {h : Hp} {v3 : Int32} {s0 : Int32} {L : Nat} {xs : Nat → Int32} (hX : X.2.2.2.2 = some (L, xs)) {d' : Nat} {Q' : Int32 → Hp → Prop} (hdd : d' < d) (hC : CI d' 268 [.ref 84] h Q') (kk : ∀ x h', Q' x h' → G X d 295 1179 [some (.ref 999), some (.ref 0), some (.ref 84), some (.int v3)] [.int x, .int s0] h') : G X d 295 1175 [some (.ref 999), some (.ref 0), some (.ref 84), some (.int v3)] [.int s0] h := by
  refine g_aload_n d_295_1175 rfl rfl ?_
  exact g_callVI (mj := 268) 9 [] [.int s0] d_295_1176 wd_521 mo_268 mc_268 mv_268 rfl rfl rfl (Nat.le_of_ble_eq_true rfl) rfl hdd hC kk

theorem k_295_1179 {X : GX} {d : Nat} {h : Hp} {v3 : Int32} {s0 : Int32} {s1 : Int32} {L : Nat} {xs : Nat → Int32} (hX : X.2.2.2.2 = some (L, xs)) (kt : s1 = s0 → G X d 295 1735 [some (.ref 999), some (.ref 0), some (.ref 84), some (.int v3)] [] h) (kf : ¬ s1 = s0 → G X d 295 1182 [none, none, none, none] [] h) : G X d 295 1179 [some (.ref 999), some (.ref 0), some (.ref 84), some (.int v3)] [.int s0, .int s1] h := by
  exact g_icmp_eq (tgt := 1735) d_295_1179 (by decide) kt (fun q => g_mask [false, false, false, false] (kf q))

theorem k_295_1182 {X : GX} {d : Nat} {h : Hp} {L : Nat} {xs : Nat → Int32} (hX : X.2.2.2.2 = some (L, xs)) (hq : RtX X (some (.int 0)) h) : G X d 295 1182 [none, none, none, none] [] h := by
  refine g_iconst (v := 0) d_295_1182 (by decide) ?_
  exact g_retz d_295_1183 rfl z01_0 hq

theorem k_295_1184 {X : GX} {d : Nat} {h : Hp} {v3 : Int32} {L : Nat} {xs : Nat → Int32} (hX : X.2.2.2.2 = some (L, xs)) {d' : Nat} {Q' : Int32 → Hp → Prop} (b0 : vp_in (v3 + 1) L) (b1 : vp_in (v3 + 2) L) (hdd : d' < d) (hC : CI d' 136 [.ref 0, .int (xs (Int32.toNatClampNeg (v3 + 1))), .int (xs (Int32.toNatClampNeg (v3 + 2)))] h Q') (kk : ∀ x h', Q' x h' → G X d 295 1198 [some (.ref 999), some (.ref 0), some (.ref 84), some (.int v3)] [.int x] h') : G X d 295 1184 [some (.ref 999), some (.ref 0), some (.ref 84), some (.int v3)] [] h := by
  refine g_aload_n d_295_1184 rfl rfl ?_
  refine g_aload_n d_295_1185 rfl rfl ?_
  refine g_iload_n d_295_1186 rfl rfl ?_
  refine g_iconst (v := 1) d_295_1187 (by decide) ?_
  refine g_iadd d_295_1188 ?_
  refine g_sld hX d_295_1189 b0 ?_
  refine g_aload_n d_295_1190 rfl rfl ?_
  refine g_iload_n d_295_1191 rfl rfl ?_
  refine g_iconst (v := 2) d_295_1192 (by decide) ?_
  refine g_iadd d_295_1193 ?_
  refine g_sld hX d_295_1194 b1 ?_
  exact g_callVI (mj := 136) 8 [.int (xs (Int32.toNatClampNeg (v3 + 1))), .int (xs (Int32.toNatClampNeg (v3 + 2)))] [] d_295_1195 wd_304 mo_136 mc_136 mv_136 rfl rfl rfl (Nat.le_of_ble_eq_true rfl) rfl hdd hC kk

theorem k_295_1198 {X : GX} {d : Nat} {h : Hp} {v3 : Int32} {s0 : Int32} {L : Nat} {xs : Nat → Int32} (hX : X.2.2.2.2 = some (L, xs)) {d' : Nat} {Q' : Int32 → Hp → Prop} (b0 : vp_in (v3 + 1) L) (b1 : vp_in (v3 + 2) L) (hdd : d' < d) (hC : CI d' 270 [.ref 84, .int (xs (Int32.toNatClampNeg (v3 + 1))), .int (xs (Int32.toNatClampNeg (v3 + 2)))] h Q') (kk : ∀ x h', Q' x h' → G X d 295 1212 [some (.ref 999), some (.ref 0), some (.ref 84), some (.int v3)] [.int x, .int s0] h') : G X d 295 1198 [some (.ref 999), some (.ref 0), some (.ref 84), some (.int v3)] [.int s0] h := by
  refine g_aload_n d_295_1198 rfl rfl ?_
  refine g_aload_n d_295_1199 rfl rfl ?_
  refine g_iload_n d_295_1200 rfl rfl ?_
  refine g_iconst (v := 1) d_295_1201 (by decide) ?_
  refine g_iadd d_295_1202 ?_
  refine g_sld hX d_295_1203 b0 ?_
  refine g_aload_n d_295_1204 rfl rfl ?_
  refine g_iload_n d_295_1205 rfl rfl ?_
  refine g_iconst (v := 2) d_295_1206 (by decide) ?_
  refine g_iadd d_295_1207 ?_
  refine g_sld hX d_295_1208 b1 ?_
  exact g_callVI (mj := 270) 9 [.int (xs (Int32.toNatClampNeg (v3 + 1))), .int (xs (Int32.toNatClampNeg (v3 + 2)))] [.int s0] d_295_1209 wd_524 mo_270 mc_270 mv_270 rfl rfl rfl (Nat.le_of_ble_eq_true rfl) rfl hdd hC kk

theorem k_295_1212 {X : GX} {d : Nat} {h : Hp} {v3 : Int32} {s0 : Int32} {s1 : Int32} {L : Nat} {xs : Nat → Int32} (hX : X.2.2.2.2 = some (L, xs)) (kt : s1 = s0 → G X d 295 1735 [some (.ref 999), some (.ref 0), some (.ref 84), some (.int v3)] [] h) (kf : ¬ s1 = s0 → G X d 295 1215 [none, none, none, none] [] h) : G X d 295 1212 [some (.ref 999), some (.ref 0), some (.ref 84), some (.int v3)] [.int s0, .int s1] h := by
  exact g_icmp_eq (tgt := 1735) d_295_1212 (by decide) kt (fun q => g_mask [false, false, false, false] (kf q))

theorem k_295_1215 {X : GX} {d : Nat} {h : Hp} {L : Nat} {xs : Nat → Int32} (hX : X.2.2.2.2 = some (L, xs)) (hq : RtX X (some (.int 0)) h) : G X d 295 1215 [none, none, none, none] [] h := by
  refine g_iconst (v := 0) d_295_1215 (by decide) ?_
  exact g_retz d_295_1216 rfl z01_0 hq

theorem k_295_1217 {X : GX} {d : Nat} {h : Hp} {v3 : Int32} {L : Nat} {xs : Nat → Int32} (hX : X.2.2.2.2 = some (L, xs)) {d' : Nat} {Q' : Int32 → Hp → Prop} (b0 : vp_in (v3 + 1) L) (hdd : d' < d) (hC : CI d' 138 [.ref 0, .int (xs (Int32.toNatClampNeg (v3 + 1)))] h Q') (kk : ∀ x h', Q' x h' → G X d 295 1226 [some (.ref 999), some (.ref 0), some (.ref 84), some (.int v3)] [.int x] h') : G X d 295 1217 [some (.ref 999), some (.ref 0), some (.ref 84), some (.int v3)] [] h := by
  refine g_aload_n d_295_1217 rfl rfl ?_
  refine g_aload_n d_295_1218 rfl rfl ?_
  refine g_iload_n d_295_1219 rfl rfl ?_
  refine g_iconst (v := 1) d_295_1220 (by decide) ?_
  refine g_iadd d_295_1221 ?_
  refine g_sld hX d_295_1222 b0 ?_
  exact g_callVI (mj := 138) 8 [.int (xs (Int32.toNatClampNeg (v3 + 1)))] [] d_295_1223 wd_307 mo_138 mc_138 mv_138 rfl rfl rfl (Nat.le_of_ble_eq_true rfl) rfl hdd hC kk

theorem k_295_1226 {X : GX} {d : Nat} {h : Hp} {v3 : Int32} {s0 : Int32} {L : Nat} {xs : Nat → Int32} (hX : X.2.2.2.2 = some (L, xs)) {d' : Nat} {Q' : Int32 → Hp → Prop} (b0 : vp_in (v3 + 1) L) (hdd : d' < d) (hC : CI d' 271 [.ref 84, .int (xs (Int32.toNatClampNeg (v3 + 1)))] h Q') (kk : ∀ x h', Q' x h' → G X d 295 1235 [some (.ref 999), some (.ref 0), some (.ref 84), some (.int v3)] [.int x, .int s0] h') : G X d 295 1226 [some (.ref 999), some (.ref 0), some (.ref 84), some (.int v3)] [.int s0] h := by
  refine g_aload_n d_295_1226 rfl rfl ?_
  refine g_aload_n d_295_1227 rfl rfl ?_
  refine g_iload_n d_295_1228 rfl rfl ?_
  refine g_iconst (v := 1) d_295_1229 (by decide) ?_
  refine g_iadd d_295_1230 ?_
  refine g_sld hX d_295_1231 b0 ?_
  exact g_callVI (mj := 271) 9 [.int (xs (Int32.toNatClampNeg (v3 + 1)))] [.int s0] d_295_1232 wd_526 mo_271 mc_271 mv_271 rfl rfl rfl (Nat.le_of_ble_eq_true rfl) rfl hdd hC kk

theorem k_295_1235 {X : GX} {d : Nat} {h : Hp} {v3 : Int32} {s0 : Int32} {s1 : Int32} {L : Nat} {xs : Nat → Int32} (hX : X.2.2.2.2 = some (L, xs)) (kt : s1 = s0 → G X d 295 1735 [some (.ref 999), some (.ref 0), some (.ref 84), some (.int v3)] [] h) (kf : ¬ s1 = s0 → G X d 295 1238 [none, none, none, none] [] h) : G X d 295 1235 [some (.ref 999), some (.ref 0), some (.ref 84), some (.int v3)] [.int s0, .int s1] h := by
  exact g_icmp_eq (tgt := 1735) d_295_1235 (by decide) kt (fun q => g_mask [false, false, false, false] (kf q))

theorem k_295_1238 {X : GX} {d : Nat} {h : Hp} {L : Nat} {xs : Nat → Int32} (hX : X.2.2.2.2 = some (L, xs)) (hq : RtX X (some (.int 0)) h) : G X d 295 1238 [none, none, none, none] [] h := by
  refine g_iconst (v := 0) d_295_1238 (by decide) ?_
  exact g_retz d_295_1239 rfl z01_0 hq

theorem k_295_1240 {X : GX} {d : Nat} {h : Hp} {v3 : Int32} {L : Nat} {xs : Nat → Int32} (hX : X.2.2.2.2 = some (L, xs)) {d' : Nat} {Q' : Int32 → Hp → Prop} (b0 : vp_in (v3 + 1) L) (b1 : vp_in (v3 + 2) L) (hdd : d' < d) (hC : CI d' 140 [.ref 0, .int (xs (Int32.toNatClampNeg (v3 + 1))), .int (xs (Int32.toNatClampNeg (v3 + 2)))] h Q') (kk : ∀ x h', Q' x h' → G X d 295 1254 [some (.ref 999), some (.ref 0), some (.ref 84), some (.int v3)] [.int x] h') : G X d 295 1240 [some (.ref 999), some (.ref 0), some (.ref 84), some (.int v3)] [] h := by
  refine g_aload_n d_295_1240 rfl rfl ?_
  refine g_aload_n d_295_1241 rfl rfl ?_
  refine g_iload_n d_295_1242 rfl rfl ?_
  refine g_iconst (v := 1) d_295_1243 (by decide) ?_
  refine g_iadd d_295_1244 ?_
  refine g_sld hX d_295_1245 b0 ?_
  refine g_aload_n d_295_1246 rfl rfl ?_
  refine g_iload_n d_295_1247 rfl rfl ?_
  refine g_iconst (v := 2) d_295_1248 (by decide) ?_
  refine g_iadd d_295_1249 ?_
  refine g_sld hX d_295_1250 b1 ?_
  exact g_callVI (mj := 140) 8 [.int (xs (Int32.toNatClampNeg (v3 + 1))), .int (xs (Int32.toNatClampNeg (v3 + 2)))] [] d_295_1251 wd_309 mo_140 mc_140 mv_140 rfl rfl rfl (Nat.le_of_ble_eq_true rfl) rfl hdd hC kk

theorem k_295_1254 {X : GX} {d : Nat} {h : Hp} {v3 : Int32} {s0 : Int32} {L : Nat} {xs : Nat → Int32} (hX : X.2.2.2.2 = some (L, xs)) {d' : Nat} {Q' : Int32 → Hp → Prop} (b0 : vp_in (v3 + 1) L) (b1 : vp_in (v3 + 2) L) (hdd : d' < d) (hC : CI d' 272 [.ref 84, .int (xs (Int32.toNatClampNeg (v3 + 1))), .int (xs (Int32.toNatClampNeg (v3 + 2)))] h Q') (kk : ∀ x h', Q' x h' → G X d 295 1268 [some (.ref 999), some (.ref 0), some (.ref 84), some (.int v3)] [.int x, .int s0] h') : G X d 295 1254 [some (.ref 999), some (.ref 0), some (.ref 84), some (.int v3)] [.int s0] h := by
  refine g_aload_n d_295_1254 rfl rfl ?_
  refine g_aload_n d_295_1255 rfl rfl ?_
  refine g_iload_n d_295_1256 rfl rfl ?_
  refine g_iconst (v := 1) d_295_1257 (by decide) ?_
  refine g_iadd d_295_1258 ?_
  refine g_sld hX d_295_1259 b0 ?_
  refine g_aload_n d_295_1260 rfl rfl ?_
  refine g_iload_n d_295_1261 rfl rfl ?_
  refine g_iconst (v := 2) d_295_1262 (by decide) ?_
  refine g_iadd d_295_1263 ?_
  refine g_sld hX d_295_1264 b1 ?_
  exact g_callVI (mj := 272) 9 [.int (xs (Int32.toNatClampNeg (v3 + 1))), .int (xs (Int32.toNatClampNeg (v3 + 2)))] [.int s0] d_295_1265 wd_527 mo_272 mc_272 mv_272 rfl rfl rfl (Nat.le_of_ble_eq_true rfl) rfl hdd hC kk

theorem k_295_1268 {X : GX} {d : Nat} {h : Hp} {v3 : Int32} {s0 : Int32} {s1 : Int32} {L : Nat} {xs : Nat → Int32} (hX : X.2.2.2.2 = some (L, xs)) (kt : s1 = s0 → G X d 295 1735 [some (.ref 999), some (.ref 0), some (.ref 84), some (.int v3)] [] h) (kf : ¬ s1 = s0 → G X d 295 1271 [none, none, none, none] [] h) : G X d 295 1268 [some (.ref 999), some (.ref 0), some (.ref 84), some (.int v3)] [.int s0, .int s1] h := by
  exact g_icmp_eq (tgt := 1735) d_295_1268 (by decide) kt (fun q => g_mask [false, false, false, false] (kf q))

theorem k_295_1271 {X : GX} {d : Nat} {h : Hp} {L : Nat} {xs : Nat → Int32} (hX : X.2.2.2.2 = some (L, xs)) (hq : RtX X (some (.int 0)) h) : G X d 295 1271 [none, none, none, none] [] h := by
  refine g_iconst (v := 0) d_295_1271 (by decide) ?_
  exact g_retz d_295_1272 rfl z01_0 hq

theorem k_295_1273 {X : GX} {d : Nat} {h : Hp} {v3 : Int32} {L : Nat} {xs : Nat → Int32} (hX : X.2.2.2.2 = some (L, xs)) {d' : Nat} {Q' : Int32 → Hp → Prop} (b0 : vp_in (v3 + 1) L) (b1 : vp_in (v3 + 2) L) (b2 : vp_in (v3 + 3) L) (hdd : d' < d) (hC : CI d' 142 [.ref 0, .int (xs (Int32.toNatClampNeg (v3 + 1))), .int (xs (Int32.toNatClampNeg (v3 + 2))), .int (xs (Int32.toNatClampNeg (v3 + 3)))] h Q') (kk : ∀ x h', Q' x h' → G X d 295 1292 [some (.ref 999), some (.ref 0), some (.ref 84), some (.int v3)] [.int x] h') : G X d 295 1273 [some (.ref 999), some (.ref 0), some (.ref 84), some (.int v3)] [] h := by
  refine g_aload_n d_295_1273 rfl rfl ?_
  refine g_aload_n d_295_1274 rfl rfl ?_
  refine g_iload_n d_295_1275 rfl rfl ?_
  refine g_iconst (v := 1) d_295_1276 (by decide) ?_
  refine g_iadd d_295_1277 ?_
  refine g_sld hX d_295_1278 b0 ?_
  refine g_aload_n d_295_1279 rfl rfl ?_
  refine g_iload_n d_295_1280 rfl rfl ?_
  refine g_iconst (v := 2) d_295_1281 (by decide) ?_
  refine g_iadd d_295_1282 ?_
  refine g_sld hX d_295_1283 b1 ?_
  refine g_aload_n d_295_1284 rfl rfl ?_
  refine g_iload_n d_295_1285 rfl rfl ?_
  refine g_iconst (v := 3) d_295_1286 (by decide) ?_
  refine g_iadd d_295_1287 ?_
  refine g_sld hX d_295_1288 b2 ?_
  exact g_callVI (mj := 142) 8 [.int (xs (Int32.toNatClampNeg (v3 + 1))), .int (xs (Int32.toNatClampNeg (v3 + 2))), .int (xs (Int32.toNatClampNeg (v3 + 3)))] [] d_295_1289 wd_311 mo_142 mc_142 mv_142 rfl rfl rfl (Nat.le_of_ble_eq_true rfl) rfl hdd hC kk

theorem k_295_1292 {X : GX} {d : Nat} {h : Hp} {v3 : Int32} {s0 : Int32} {L : Nat} {xs : Nat → Int32} (hX : X.2.2.2.2 = some (L, xs)) {d' : Nat} {Q' : Int32 → Hp → Prop} (b0 : vp_in (v3 + 1) L) (b1 : vp_in (v3 + 2) L) (b2 : vp_in (v3 + 3) L) (hdd : d' < d) (hC : CI d' 273 [.ref 84, .int (xs (Int32.toNatClampNeg (v3 + 1))), .int (xs (Int32.toNatClampNeg (v3 + 2))), .int (xs (Int32.toNatClampNeg (v3 + 3)))] h Q') (kk : ∀ x h', Q' x h' → G X d 295 1311 [some (.ref 999), some (.ref 0), some (.ref 84), some (.int v3)] [.int x, .int s0] h') : G X d 295 1292 [some (.ref 999), some (.ref 0), some (.ref 84), some (.int v3)] [.int s0] h := by
  refine g_aload_n d_295_1292 rfl rfl ?_
  refine g_aload_n d_295_1293 rfl rfl ?_
  refine g_iload_n d_295_1294 rfl rfl ?_
  refine g_iconst (v := 1) d_295_1295 (by decide) ?_
  refine g_iadd d_295_1296 ?_
  refine g_sld hX d_295_1297 b0 ?_
  refine g_aload_n d_295_1298 rfl rfl ?_
  refine g_iload_n d_295_1299 rfl rfl ?_
  refine g_iconst (v := 2) d_295_1300 (by decide) ?_
  refine g_iadd d_295_1301 ?_
  refine g_sld hX d_295_1302 b1 ?_
  refine g_aload_n d_295_1303 rfl rfl ?_
  refine g_iload_n d_295_1304 rfl rfl ?_
  refine g_iconst (v := 3) d_295_1305 (by decide) ?_
  refine g_iadd d_295_1306 ?_
  refine g_sld hX d_295_1307 b2 ?_
  exact g_callVI (mj := 273) 9 [.int (xs (Int32.toNatClampNeg (v3 + 1))), .int (xs (Int32.toNatClampNeg (v3 + 2))), .int (xs (Int32.toNatClampNeg (v3 + 3)))] [.int s0] d_295_1308 wd_529 mo_273 mc_273 mv_273 rfl rfl rfl (Nat.le_of_ble_eq_true rfl) rfl hdd hC kk

theorem k_295_1311 {X : GX} {d : Nat} {h : Hp} {v3 : Int32} {s0 : Int32} {s1 : Int32} {L : Nat} {xs : Nat → Int32} (hX : X.2.2.2.2 = some (L, xs)) (kt : s1 = s0 → G X d 295 1735 [some (.ref 999), some (.ref 0), some (.ref 84), some (.int v3)] [] h) (kf : ¬ s1 = s0 → G X d 295 1314 [none, none, none, none] [] h) : G X d 295 1311 [some (.ref 999), some (.ref 0), some (.ref 84), some (.int v3)] [.int s0, .int s1] h := by
  exact g_icmp_eq (tgt := 1735) d_295_1311 (by decide) kt (fun q => g_mask [false, false, false, false] (kf q))

theorem k_295_1314 {X : GX} {d : Nat} {h : Hp} {L : Nat} {xs : Nat → Int32} (hX : X.2.2.2.2 = some (L, xs)) (hq : RtX X (some (.int 0)) h) : G X d 295 1314 [none, none, none, none] [] h := by
  refine g_iconst (v := 0) d_295_1314 (by decide) ?_
  exact g_retz d_295_1315 rfl z01_0 hq

theorem k_295_1316 {X : GX} {d : Nat} {h : Hp} {v3 : Int32} {L : Nat} {xs : Nat → Int32} (hX : X.2.2.2.2 = some (L, xs)) {d' : Nat} {Q' : Int32 → Hp → Prop} (hdd : d' < d) (hC : CI d' 143 [.ref 0] h Q') (kk : ∀ x h', Q' x h' → G X d 295 1320 [some (.ref 999), some (.ref 0), some (.ref 84), some (.int v3)] [.int x] h') : G X d 295 1316 [some (.ref 999), some (.ref 0), some (.ref 84), some (.int v3)] [] h := by
  refine g_aload_n d_295_1316 rfl rfl ?_
  exact g_callVI (mj := 143) 8 [] [] d_295_1317 wd_312 mo_143 mc_143 mv_143 rfl rfl rfl (Nat.le_of_ble_eq_true rfl) rfl hdd hC kk

theorem k_295_1320 {X : GX} {d : Nat} {h : Hp} {v3 : Int32} {s0 : Int32} {L : Nat} {xs : Nat → Int32} (hX : X.2.2.2.2 = some (L, xs)) {d' : Nat} {Q' : Int32 → Hp → Prop} (hdd : d' < d) (hC : CI d' 274 [.ref 84] h Q') (kk : ∀ x h', Q' x h' → G X d 295 1324 [some (.ref 999), some (.ref 0), some (.ref 84), some (.int v3)] [.int x, .int s0] h') : G X d 295 1320 [some (.ref 999), some (.ref 0), some (.ref 84), some (.int v3)] [.int s0] h := by
  refine g_aload_n d_295_1320 rfl rfl ?_
  exact g_callVI (mj := 274) 9 [] [.int s0] d_295_1321 wd_530 mo_274 mc_274 mv_274 rfl rfl rfl (Nat.le_of_ble_eq_true rfl) rfl hdd hC kk

theorem k_295_1324 {X : GX} {d : Nat} {h : Hp} {v3 : Int32} {s0 : Int32} {s1 : Int32} {L : Nat} {xs : Nat → Int32} (hX : X.2.2.2.2 = some (L, xs)) (kt : s1 = s0 → G X d 295 1735 [some (.ref 999), some (.ref 0), some (.ref 84), some (.int v3)] [] h) (kf : ¬ s1 = s0 → G X d 295 1327 [none, none, none, none] [] h) : G X d 295 1324 [some (.ref 999), some (.ref 0), some (.ref 84), some (.int v3)] [.int s0, .int s1] h := by
  exact g_icmp_eq (tgt := 1735) d_295_1324 (by decide) kt (fun q => g_mask [false, false, false, false] (kf q))

theorem k_295_1327 {X : GX} {d : Nat} {h : Hp} {L : Nat} {xs : Nat → Int32} (hX : X.2.2.2.2 = some (L, xs)) (hq : RtX X (some (.int 0)) h) : G X d 295 1327 [none, none, none, none] [] h := by
  refine g_iconst (v := 0) d_295_1327 (by decide) ?_
  exact g_retz d_295_1328 rfl z01_0 hq

theorem k_295_1329 {X : GX} {d : Nat} {h : Hp} {v3 : Int32} {L : Nat} {xs : Nat → Int32} (hX : X.2.2.2.2 = some (L, xs)) {d' : Nat} {Q' : Int32 → Hp → Prop} (b0 : vp_in (v3 + 1) L) (b1 : vp_in (v3 + 2) L) (b2 : vp_in (v3 + 3) L) (hdd : d' < d) (hC : CI d' 146 [.ref 0, .int (xs (Int32.toNatClampNeg (v3 + 1))), .int (xs (Int32.toNatClampNeg (v3 + 2))), .int (xs (Int32.toNatClampNeg (v3 + 3)))] h Q') (kk : ∀ x h', Q' x h' → G X d 295 1348 [some (.ref 999), some (.ref 0), some (.ref 84), some (.int v3)] [.int x] h') : G X d 295 1329 [some (.ref 999), some (.ref 0), some (.ref 84), some (.int v3)] [] h := by
  refine g_aload_n d_295_1329 rfl rfl ?_
  refine g_aload_n d_295_1330 rfl rfl ?_
  refine g_iload_n d_295_1331 rfl rfl ?_
  refine g_iconst (v := 1) d_295_1332 (by decide) ?_
  refine g_iadd d_295_1333 ?_
  refine g_sld hX d_295_1334 b0 ?_
  refine g_aload_n d_295_1335 rfl rfl ?_
  refine g_iload_n d_295_1336 rfl rfl ?_
  refine g_iconst (v := 2) d_295_1337 (by decide) ?_
  refine g_iadd d_295_1338 ?_
  refine g_sld hX d_295_1339 b1 ?_
  refine g_aload_n d_295_1340 rfl rfl ?_
  refine g_iload_n d_295_1341 rfl rfl ?_
  refine g_iconst (v := 3) d_295_1342 (by decide) ?_
  refine g_iadd d_295_1343 ?_
  refine g_sld hX d_295_1344 b2 ?_
  exact g_callVI (mj := 146) 8 [.int (xs (Int32.toNatClampNeg (v3 + 1))), .int (xs (Int32.toNatClampNeg (v3 + 2))), .int (xs (Int32.toNatClampNeg (v3 + 3)))] [] d_295_1345 wd_315 mo_146 mc_146 mv_146 rfl rfl rfl (Nat.le_of_ble_eq_true rfl) rfl hdd hC kk

theorem k_295_1348 {X : GX} {d : Nat} {h : Hp} {v3 : Int32} {s0 : Int32} {L : Nat} {xs : Nat → Int32} (hX : X.2.2.2.2 = some (L, xs)) {d' : Nat} {Q' : Int32 → Hp → Prop} (b0 : vp_in (v3 + 1) L) (b1 : vp_in (v3 + 2) L) (b2 : vp_in (v3 + 3) L) (hdd : d' < d) (hC : CI d' 275 [.ref 84, .int (xs (Int32.toNatClampNeg (v3 + 1))), .int (xs (Int32.toNatClampNeg (v3 + 2))), .int (xs (Int32.toNatClampNeg (v3 + 3)))] h Q') (kk : ∀ x h', Q' x h' → G X d 295 1367 [some (.ref 999), some (.ref 0), some (.ref 84), some (.int v3)] [.int x, .int s0] h') : G X d 295 1348 [some (.ref 999), some (.ref 0), some (.ref 84), some (.int v3)] [.int s0] h := by
  refine g_aload_n d_295_1348 rfl rfl ?_
  refine g_aload_n d_295_1349 rfl rfl ?_
  refine g_iload_n d_295_1350 rfl rfl ?_
  refine g_iconst (v := 1) d_295_1351 (by decide) ?_
  refine g_iadd d_295_1352 ?_
  refine g_sld hX d_295_1353 b0 ?_
  refine g_aload_n d_295_1354 rfl rfl ?_
  refine g_iload_n d_295_1355 rfl rfl ?_
  refine g_iconst (v := 2) d_295_1356 (by decide) ?_
  refine g_iadd d_295_1357 ?_
  refine g_sld hX d_295_1358 b1 ?_
  refine g_aload_n d_295_1359 rfl rfl ?_
  refine g_iload_n d_295_1360 rfl rfl ?_
  refine g_iconst (v := 3) d_295_1361 (by decide) ?_
  refine g_iadd d_295_1362 ?_
  refine g_sld hX d_295_1363 b2 ?_
  exact g_callVI (mj := 275) 9 [.int (xs (Int32.toNatClampNeg (v3 + 1))), .int (xs (Int32.toNatClampNeg (v3 + 2))), .int (xs (Int32.toNatClampNeg (v3 + 3)))] [.int s0] d_295_1364 wd_531 mo_275 mc_275 mv_275 rfl rfl rfl (Nat.le_of_ble_eq_true rfl) rfl hdd hC kk

theorem k_295_1367 {X : GX} {d : Nat} {h : Hp} {v3 : Int32} {s0 : Int32} {s1 : Int32} {L : Nat} {xs : Nat → Int32} (hX : X.2.2.2.2 = some (L, xs)) (kt : s1 = s0 → G X d 295 1735 [some (.ref 999), some (.ref 0), some (.ref 84), some (.int v3)] [] h) (kf : ¬ s1 = s0 → G X d 295 1370 [none, none, none, none] [] h) : G X d 295 1367 [some (.ref 999), some (.ref 0), some (.ref 84), some (.int v3)] [.int s0, .int s1] h := by
  exact g_icmp_eq (tgt := 1735) d_295_1367 (by decide) kt (fun q => g_mask [false, false, false, false] (kf q))

theorem k_295_1370 {X : GX} {d : Nat} {h : Hp} {L : Nat} {xs : Nat → Int32} (hX : X.2.2.2.2 = some (L, xs)) (hq : RtX X (some (.int 0)) h) : G X d 295 1370 [none, none, none, none] [] h := by
  refine g_iconst (v := 0) d_295_1370 (by decide) ?_
  exact g_retz d_295_1371 rfl z01_0 hq

theorem k_295_1372 {X : GX} {d : Nat} {h : Hp} {v3 : Int32} {L : Nat} {xs : Nat → Int32} (hX : X.2.2.2.2 = some (L, xs)) {d' : Nat} {Q' : Int32 → Hp → Prop} (b0 : vp_in (v3 + 1) L) (b1 : vp_in (v3 + 2) L) (b2 : vp_in (v3 + 3) L) (hdd : d' < d) (hC : CI d' 149 [.ref 0, .int (xs (Int32.toNatClampNeg (v3 + 1))), .int (xs (Int32.toNatClampNeg (v3 + 2))), .int (xs (Int32.toNatClampNeg (v3 + 3)))] h Q') (kk : ∀ x h', Q' x h' → G X d 295 1391 [some (.ref 999), some (.ref 0), some (.ref 84), some (.int v3)] [.int x] h') : G X d 295 1372 [some (.ref 999), some (.ref 0), some (.ref 84), some (.int v3)] [] h := by
  refine g_aload_n d_295_1372 rfl rfl ?_
  refine g_aload_n d_295_1373 rfl rfl ?_
  refine g_iload_n d_295_1374 rfl rfl ?_
  refine g_iconst (v := 1) d_295_1375 (by decide) ?_
  refine g_iadd d_295_1376 ?_
  refine g_sld hX d_295_1377 b0 ?_
  refine g_aload_n d_295_1378 rfl rfl ?_
  refine g_iload_n d_295_1379 rfl rfl ?_
  refine g_iconst (v := 2) d_295_1380 (by decide) ?_
  refine g_iadd d_295_1381 ?_
  refine g_sld hX d_295_1382 b1 ?_
  refine g_aload_n d_295_1383 rfl rfl ?_
  refine g_iload_n d_295_1384 rfl rfl ?_
  refine g_iconst (v := 3) d_295_1385 (by decide) ?_
  refine g_iadd d_295_1386 ?_
  refine g_sld hX d_295_1387 b2 ?_
  exact g_callVI (mj := 149) 8 [.int (xs (Int32.toNatClampNeg (v3 + 1))), .int (xs (Int32.toNatClampNeg (v3 + 2))), .int (xs (Int32.toNatClampNeg (v3 + 3)))] [] d_295_1388 wd_318 mo_149 mc_149 mv_149 rfl rfl rfl (Nat.le_of_ble_eq_true rfl) rfl hdd hC kk

theorem k_295_1391 {X : GX} {d : Nat} {h : Hp} {v3 : Int32} {s0 : Int32} {L : Nat} {xs : Nat → Int32} (hX : X.2.2.2.2 = some (L, xs)) {d' : Nat} {Q' : Int32 → Hp → Prop} (b0 : vp_in (v3 + 1) L) (b1 : vp_in (v3 + 2) L) (b2 : vp_in (v3 + 3) L) (hdd : d' < d) (hC : CI d' 277 [.ref 84, .int (xs (Int32.toNatClampNeg (v3 + 1))), .int (xs (Int32.toNatClampNeg (v3 + 2))), .int (xs (Int32.toNatClampNeg (v3 + 3)))] h Q') (kk : ∀ x h', Q' x h' → G X d 295 1410 [some (.ref 999), some (.ref 0), some (.ref 84), some (.int v3)] [.int x, .int s0] h') : G X d 295 1391 [some (.ref 999), some (.ref 0), some (.ref 84), some (.int v3)] [.int s0] h := by
  refine g_aload_n d_295_1391 rfl rfl ?_
  refine g_aload_n d_295_1392 rfl rfl ?_
  refine g_iload_n d_295_1393 rfl rfl ?_
  refine g_iconst (v := 1) d_295_1394 (by decide) ?_
  refine g_iadd d_295_1395 ?_
  refine g_sld hX d_295_1396 b0 ?_
  refine g_aload_n d_295_1397 rfl rfl ?_
  refine g_iload_n d_295_1398 rfl rfl ?_
  refine g_iconst (v := 2) d_295_1399 (by decide) ?_
  refine g_iadd d_295_1400 ?_
  refine g_sld hX d_295_1401 b1 ?_
  refine g_aload_n d_295_1402 rfl rfl ?_
  refine g_iload_n d_295_1403 rfl rfl ?_
  refine g_iconst (v := 3) d_295_1404 (by decide) ?_
  refine g_iadd d_295_1405 ?_
  refine g_sld hX d_295_1406 b2 ?_
  exact g_callVI (mj := 277) 9 [.int (xs (Int32.toNatClampNeg (v3 + 1))), .int (xs (Int32.toNatClampNeg (v3 + 2))), .int (xs (Int32.toNatClampNeg (v3 + 3)))] [.int s0] d_295_1407 wd_533 mo_277 mc_277 mv_277 rfl rfl rfl (Nat.le_of_ble_eq_true rfl) rfl hdd hC kk

theorem k_295_1410 {X : GX} {d : Nat} {h : Hp} {v3 : Int32} {s0 : Int32} {s1 : Int32} {L : Nat} {xs : Nat → Int32} (hX : X.2.2.2.2 = some (L, xs)) (kt : s1 = s0 → G X d 295 1735 [some (.ref 999), some (.ref 0), some (.ref 84), some (.int v3)] [] h) (kf : ¬ s1 = s0 → G X d 295 1413 [none, none, none, none] [] h) : G X d 295 1410 [some (.ref 999), some (.ref 0), some (.ref 84), some (.int v3)] [.int s0, .int s1] h := by
  exact g_icmp_eq (tgt := 1735) d_295_1410 (by decide) kt (fun q => g_mask [false, false, false, false] (kf q))

theorem k_295_1413 {X : GX} {d : Nat} {h : Hp} {L : Nat} {xs : Nat → Int32} (hX : X.2.2.2.2 = some (L, xs)) (hq : RtX X (some (.int 0)) h) : G X d 295 1413 [none, none, none, none] [] h := by
  refine g_iconst (v := 0) d_295_1413 (by decide) ?_
  exact g_retz d_295_1414 rfl z01_0 hq

theorem k_295_1415 {X : GX} {d : Nat} {h : Hp} {v3 : Int32} {L : Nat} {xs : Nat → Int32} (hX : X.2.2.2.2 = some (L, xs)) {d' : Nat} {Q' : Int32 → Hp → Prop} (b0 : vp_in (v3 + 1) L) (b1 : vp_in (v3 + 2) L) (b2 : vp_in (v3 + 3) L) (hdd : d' < d) (hC : CI d' 152 [.ref 0, .int (xs (Int32.toNatClampNeg (v3 + 1))), .int (xs (Int32.toNatClampNeg (v3 + 2))), .int (xs (Int32.toNatClampNeg (v3 + 3)))] h Q') (kk : ∀ x h', Q' x h' → G X d 295 1434 [some (.ref 999), some (.ref 0), some (.ref 84), some (.int v3)] [.int x] h') : G X d 295 1415 [some (.ref 999), some (.ref 0), some (.ref 84), some (.int v3)] [] h := by
  refine g_aload_n d_295_1415 rfl rfl ?_
  refine g_aload_n d_295_1416 rfl rfl ?_
  refine g_iload_n d_295_1417 rfl rfl ?_
  refine g_iconst (v := 1) d_295_1418 (by decide) ?_
  refine g_iadd d_295_1419 ?_
  refine g_sld hX d_295_1420 b0 ?_
  refine g_aload_n d_295_1421 rfl rfl ?_
  refine g_iload_n d_295_1422 rfl rfl ?_
  refine g_iconst (v := 2) d_295_1423 (by decide) ?_
  refine g_iadd d_295_1424 ?_
  refine g_sld hX d_295_1425 b1 ?_
  refine g_aload_n d_295_1426 rfl rfl ?_
  refine g_iload_n d_295_1427 rfl rfl ?_
  refine g_iconst (v := 3) d_295_1428 (by decide) ?_
  refine g_iadd d_295_1429 ?_
  refine g_sld hX d_295_1430 b2 ?_
  exact g_callVI (mj := 152) 8 [.int (xs (Int32.toNatClampNeg (v3 + 1))), .int (xs (Int32.toNatClampNeg (v3 + 2))), .int (xs (Int32.toNatClampNeg (v3 + 3)))] [] d_295_1431 wd_321 mo_152 mc_152 mv_152 rfl rfl rfl (Nat.le_of_ble_eq_true rfl) rfl hdd hC kk

theorem k_295_1434 {X : GX} {d : Nat} {h : Hp} {v3 : Int32} {s0 : Int32} {L : Nat} {xs : Nat → Int32} (hX : X.2.2.2.2 = some (L, xs)) {d' : Nat} {Q' : Int32 → Hp → Prop} (b0 : vp_in (v3 + 1) L) (b1 : vp_in (v3 + 2) L) (b2 : vp_in (v3 + 3) L) (hdd : d' < d) (hC : CI d' 278 [.ref 84, .int (xs (Int32.toNatClampNeg (v3 + 1))), .int (xs (Int32.toNatClampNeg (v3 + 2))), .int (xs (Int32.toNatClampNeg (v3 + 3)))] h Q') (kk : ∀ x h', Q' x h' → G X d 295 1453 [some (.ref 999), some (.ref 0), some (.ref 84), some (.int v3)] [.int x, .int s0] h') : G X d 295 1434 [some (.ref 999), some (.ref 0), some (.ref 84), some (.int v3)] [.int s0] h := by
  refine g_aload_n d_295_1434 rfl rfl ?_
  refine g_aload_n d_295_1435 rfl rfl ?_
  refine g_iload_n d_295_1436 rfl rfl ?_
  refine g_iconst (v := 1) d_295_1437 (by decide) ?_
  refine g_iadd d_295_1438 ?_
  refine g_sld hX d_295_1439 b0 ?_
  refine g_aload_n d_295_1440 rfl rfl ?_
  refine g_iload_n d_295_1441 rfl rfl ?_
  refine g_iconst (v := 2) d_295_1442 (by decide) ?_
  refine g_iadd d_295_1443 ?_
  refine g_sld hX d_295_1444 b1 ?_
  refine g_aload_n d_295_1445 rfl rfl ?_
  refine g_iload_n d_295_1446 rfl rfl ?_
  refine g_iconst (v := 3) d_295_1447 (by decide) ?_
  refine g_iadd d_295_1448 ?_
  refine g_sld hX d_295_1449 b2 ?_
  exact g_callVI (mj := 278) 9 [.int (xs (Int32.toNatClampNeg (v3 + 1))), .int (xs (Int32.toNatClampNeg (v3 + 2))), .int (xs (Int32.toNatClampNeg (v3 + 3)))] [.int s0] d_295_1450 wd_534 mo_278 mc_278 mv_278 rfl rfl rfl (Nat.le_of_ble_eq_true rfl) rfl hdd hC kk

theorem k_295_1453 {X : GX} {d : Nat} {h : Hp} {v3 : Int32} {s0 : Int32} {s1 : Int32} {L : Nat} {xs : Nat → Int32} (hX : X.2.2.2.2 = some (L, xs)) (kt : s1 = s0 → G X d 295 1735 [some (.ref 999), some (.ref 0), some (.ref 84), some (.int v3)] [] h) (kf : ¬ s1 = s0 → G X d 295 1456 [none, none, none, none] [] h) : G X d 295 1453 [some (.ref 999), some (.ref 0), some (.ref 84), some (.int v3)] [.int s0, .int s1] h := by
  exact g_icmp_eq (tgt := 1735) d_295_1453 (by decide) kt (fun q => g_mask [false, false, false, false] (kf q))

theorem k_295_1456 {X : GX} {d : Nat} {h : Hp} {L : Nat} {xs : Nat → Int32} (hX : X.2.2.2.2 = some (L, xs)) (hq : RtX X (some (.int 0)) h) : G X d 295 1456 [none, none, none, none] [] h := by
  refine g_iconst (v := 0) d_295_1456 (by decide) ?_
  exact g_retz d_295_1457 rfl z01_0 hq

theorem k_295_1458 {X : GX} {d : Nat} {h : Hp} {v3 : Int32} {L : Nat} {xs : Nat → Int32} (hX : X.2.2.2.2 = some (L, xs)) {d' : Nat} {Q' : Int32 → Hp → Prop} (b0 : vp_in (v3 + 1) L) (b1 : vp_in (v3 + 2) L) (b2 : vp_in (v3 + 3) L) (hdd : d' < d) (hC : CI d' 154 [.ref 0, .int (xs (Int32.toNatClampNeg (v3 + 1))), .int (xs (Int32.toNatClampNeg (v3 + 2))), .int (xs (Int32.toNatClampNeg (v3 + 3)))] h Q') (kk : ∀ x h', Q' x h' → G X d 295 1477 [some (.ref 999), some (.ref 0), some (.ref 84), some (.int v3)] [.int x] h') : G X d 295 1458 [some (.ref 999), some (.ref 0), some (.ref 84), some (.int v3)] [] h := by
  refine g_aload_n d_295_1458 rfl rfl ?_
  refine g_aload_n d_295_1459 rfl rfl ?_
  refine g_iload_n d_295_1460 rfl rfl ?_
  refine g_iconst (v := 1) d_295_1461 (by decide) ?_
  refine g_iadd d_295_1462 ?_
  refine g_sld hX d_295_1463 b0 ?_
  refine g_aload_n d_295_1464 rfl rfl ?_
  refine g_iload_n d_295_1465 rfl rfl ?_
  refine g_iconst (v := 2) d_295_1466 (by decide) ?_
  refine g_iadd d_295_1467 ?_
  refine g_sld hX d_295_1468 b1 ?_
  refine g_aload_n d_295_1469 rfl rfl ?_
  refine g_iload_n d_295_1470 rfl rfl ?_
  refine g_iconst (v := 3) d_295_1471 (by decide) ?_
  refine g_iadd d_295_1472 ?_
  refine g_sld hX d_295_1473 b2 ?_
  exact g_callVI (mj := 154) 8 [.int (xs (Int32.toNatClampNeg (v3 + 1))), .int (xs (Int32.toNatClampNeg (v3 + 2))), .int (xs (Int32.toNatClampNeg (v3 + 3)))] [] d_295_1474 wd_323 mo_154 mc_154 mv_154 rfl rfl rfl (Nat.le_of_ble_eq_true rfl) rfl hdd hC kk

theorem k_295_1477 {X : GX} {d : Nat} {h : Hp} {v3 : Int32} {s0 : Int32} {L : Nat} {xs : Nat → Int32} (hX : X.2.2.2.2 = some (L, xs)) {d' : Nat} {Q' : Int32 → Hp → Prop} (b0 : vp_in (v3 + 1) L) (b1 : vp_in (v3 + 2) L) (b2 : vp_in (v3 + 3) L) (hdd : d' < d) (hC : CI d' 279 [.ref 84, .int (xs (Int32.toNatClampNeg (v3 + 1))), .int (xs (Int32.toNatClampNeg (v3 + 2))), .int (xs (Int32.toNatClampNeg (v3 + 3)))] h Q') (kk : ∀ x h', Q' x h' → G X d 295 1496 [some (.ref 999), some (.ref 0), some (.ref 84), some (.int v3)] [.int x, .int s0] h') : G X d 295 1477 [some (.ref 999), some (.ref 0), some (.ref 84), some (.int v3)] [.int s0] h := by
  refine g_aload_n d_295_1477 rfl rfl ?_
  refine g_aload_n d_295_1478 rfl rfl ?_
  refine g_iload_n d_295_1479 rfl rfl ?_
  refine g_iconst (v := 1) d_295_1480 (by decide) ?_
  refine g_iadd d_295_1481 ?_
  refine g_sld hX d_295_1482 b0 ?_
  refine g_aload_n d_295_1483 rfl rfl ?_
  refine g_iload_n d_295_1484 rfl rfl ?_
  refine g_iconst (v := 2) d_295_1485 (by decide) ?_
  refine g_iadd d_295_1486 ?_
  refine g_sld hX d_295_1487 b1 ?_
  refine g_aload_n d_295_1488 rfl rfl ?_
  refine g_iload_n d_295_1489 rfl rfl ?_
  refine g_iconst (v := 3) d_295_1490 (by decide) ?_
  refine g_iadd d_295_1491 ?_
  refine g_sld hX d_295_1492 b2 ?_
  exact g_callVI (mj := 279) 9 [.int (xs (Int32.toNatClampNeg (v3 + 1))), .int (xs (Int32.toNatClampNeg (v3 + 2))), .int (xs (Int32.toNatClampNeg (v3 + 3)))] [.int s0] d_295_1493 wd_535 mo_279 mc_279 mv_279 rfl rfl rfl (Nat.le_of_ble_eq_true rfl) rfl hdd hC kk

theorem k_295_1496 {X : GX} {d : Nat} {h : Hp} {v3 : Int32} {s0 : Int32} {s1 : Int32} {L : Nat} {xs : Nat → Int32} (hX : X.2.2.2.2 = some (L, xs)) (kt : s1 = s0 → G X d 295 1735 [some (.ref 999), some (.ref 0), some (.ref 84), some (.int v3)] [] h) (kf : ¬ s1 = s0 → G X d 295 1499 [none, none, none, none] [] h) : G X d 295 1496 [some (.ref 999), some (.ref 0), some (.ref 84), some (.int v3)] [.int s0, .int s1] h := by
  exact g_icmp_eq (tgt := 1735) d_295_1496 (by decide) kt (fun q => g_mask [false, false, false, false] (kf q))

theorem k_295_1499 {X : GX} {d : Nat} {h : Hp} {L : Nat} {xs : Nat → Int32} (hX : X.2.2.2.2 = some (L, xs)) (hq : RtX X (some (.int 0)) h) : G X d 295 1499 [none, none, none, none] [] h := by
  refine g_iconst (v := 0) d_295_1499 (by decide) ?_
  exact g_retz d_295_1500 rfl z01_0 hq

theorem k_295_1501 {X : GX} {d : Nat} {h : Hp} {v3 : Int32} {L : Nat} {xs : Nat → Int32} (hX : X.2.2.2.2 = some (L, xs)) {d' : Nat} {Q' : Int32 → Hp → Prop} (b0 : vp_in (v3 + 1) L) (b1 : vp_in (v3 + 2) L) (b2 : vp_in (v3 + 3) L) (hdd : d' < d) (hC : CI d' 155 [.ref 0, .int (xs (Int32.toNatClampNeg (v3 + 1))), .int (xs (Int32.toNatClampNeg (v3 + 2))), .int (xs (Int32.toNatClampNeg (v3 + 3)))] h Q') (kk : ∀ x h', Q' x h' → G X d 295 1520 [some (.ref 999), some (.ref 0), some (.ref 84), some (.int v3)] [.int x] h') : G X d 295 1501 [some (.ref 999), some (.ref 0), some (.ref 84), some (.int v3)] [] h := by
  refine g_aload_n d_295_1501 rfl rfl ?_
  refine g_aload_n d_295_1502 rfl rfl ?_
  refine g_iload_n d_295_1503 rfl rfl ?_
  refine g_iconst (v := 1) d_295_1504 (by decide) ?_
  refine g_iadd d_295_1505 ?_
  refine g_sld hX d_295_1506 b0 ?_
  refine g_aload_n d_295_1507 rfl rfl ?_
  refine g_iload_n d_295_1508 rfl rfl ?_
  refine g_iconst (v := 2) d_295_1509 (by decide) ?_
  refine g_iadd d_295_1510 ?_
  refine g_sld hX d_295_1511 b1 ?_
  refine g_aload_n d_295_1512 rfl rfl ?_
  refine g_iload_n d_295_1513 rfl rfl ?_
  refine g_iconst (v := 3) d_295_1514 (by decide) ?_
  refine g_iadd d_295_1515 ?_
  refine g_sld hX d_295_1516 b2 ?_
  exact g_callVI (mj := 155) 8 [.int (xs (Int32.toNatClampNeg (v3 + 1))), .int (xs (Int32.toNatClampNeg (v3 + 2))), .int (xs (Int32.toNatClampNeg (v3 + 3)))] [] d_295_1517 wd_325 mo_155 mc_155 mv_155 rfl rfl rfl (Nat.le_of_ble_eq_true rfl) rfl hdd hC kk

theorem k_295_1520 {X : GX} {d : Nat} {h : Hp} {v3 : Int32} {s0 : Int32} {L : Nat} {xs : Nat → Int32} (hX : X.2.2.2.2 = some (L, xs)) {d' : Nat} {Q' : Int32 → Hp → Prop} (b0 : vp_in (v3 + 1) L) (b1 : vp_in (v3 + 2) L) (b2 : vp_in (v3 + 3) L) (hdd : d' < d) (hC : CI d' 281 [.ref 84, .int (xs (Int32.toNatClampNeg (v3 + 1))), .int (xs (Int32.toNatClampNeg (v3 + 2))), .int (xs (Int32.toNatClampNeg (v3 + 3)))] h Q') (kk : ∀ x h', Q' x h' → G X d 295 1539 [some (.ref 999), some (.ref 0), some (.ref 84), some (.int v3)] [.int x, .int s0] h') : G X d 295 1520 [some (.ref 999), some (.ref 0), some (.ref 84), some (.int v3)] [.int s0] h := by
  refine g_aload_n d_295_1520 rfl rfl ?_
  refine g_aload_n d_295_1521 rfl rfl ?_
  refine g_iload_n d_295_1522 rfl rfl ?_
  refine g_iconst (v := 1) d_295_1523 (by decide) ?_
  refine g_iadd d_295_1524 ?_
  refine g_sld hX d_295_1525 b0 ?_
  refine g_aload_n d_295_1526 rfl rfl ?_
  refine g_iload_n d_295_1527 rfl rfl ?_
  refine g_iconst (v := 2) d_295_1528 (by decide) ?_
  refine g_iadd d_295_1529 ?_
  refine g_sld hX d_295_1530 b1 ?_
  refine g_aload_n d_295_1531 rfl rfl ?_
  refine g_iload_n d_295_1532 rfl rfl ?_
  refine g_iconst (v := 3) d_295_1533 (by decide) ?_
  refine g_iadd d_295_1534 ?_
  refine g_sld hX d_295_1535 b2 ?_
  exact g_callVI (mj := 281) 9 [.int (xs (Int32.toNatClampNeg (v3 + 1))), .int (xs (Int32.toNatClampNeg (v3 + 2))), .int (xs (Int32.toNatClampNeg (v3 + 3)))] [.int s0] d_295_1536 wd_538 mo_281 mc_281 mv_281 rfl rfl rfl (Nat.le_of_ble_eq_true rfl) rfl hdd hC kk

theorem k_295_1539 {X : GX} {d : Nat} {h : Hp} {v3 : Int32} {s0 : Int32} {s1 : Int32} {L : Nat} {xs : Nat → Int32} (hX : X.2.2.2.2 = some (L, xs)) (kt : s1 = s0 → G X d 295 1735 [some (.ref 999), some (.ref 0), some (.ref 84), some (.int v3)] [] h) (kf : ¬ s1 = s0 → G X d 295 1542 [none, none, none, none] [] h) : G X d 295 1539 [some (.ref 999), some (.ref 0), some (.ref 84), some (.int v3)] [.int s0, .int s1] h := by
  exact g_icmp_eq (tgt := 1735) d_295_1539 (by decide) kt (fun q => g_mask [false, false, false, false] (kf q))

theorem k_295_1542 {X : GX} {d : Nat} {h : Hp} {L : Nat} {xs : Nat → Int32} (hX : X.2.2.2.2 = some (L, xs)) (hq : RtX X (some (.int 0)) h) : G X d 295 1542 [none, none, none, none] [] h := by
  refine g_iconst (v := 0) d_295_1542 (by decide) ?_
  exact g_retz d_295_1543 rfl z01_0 hq

theorem k_295_1544 {X : GX} {d : Nat} {h : Hp} {v3 : Int32} {L : Nat} {xs : Nat → Int32} (hX : X.2.2.2.2 = some (L, xs)) {d' : Nat} {Q' : Int32 → Hp → Prop} (b0 : vp_in (v3 + 1) L) (b1 : vp_in (v3 + 2) L) (b2 : vp_in (v3 + 3) L) (hdd : d' < d) (hC : CI d' 157 [.ref 0, .int (xs (Int32.toNatClampNeg (v3 + 1))), .int (xs (Int32.toNatClampNeg (v3 + 2))), .int (xs (Int32.toNatClampNeg (v3 + 3)))] h Q') (kk : ∀ x h', Q' x h' → G X d 295 1563 [some (.ref 999), some (.ref 0), some (.ref 84), some (.int v3)] [.int x] h') : G X d 295 1544 [some (.ref 999), some (.ref 0), some (.ref 84), some (.int v3)] [] h := by
  refine g_aload_n d_295_1544 rfl rfl ?_
  refine g_aload_n d_295_1545 rfl rfl ?_
  refine g_iload_n d_295_1546 rfl rfl ?_
  refine g_iconst (v := 1) d_295_1547 (by decide) ?_
  refine g_iadd d_295_1548 ?_
  refine g_sld hX d_295_1549 b0 ?_
  refine g_aload_n d_295_1550 rfl rfl ?_
  refine g_iload_n d_295_1551 rfl rfl ?_
  refine g_iconst (v := 2) d_295_1552 (by decide) ?_
  refine g_iadd d_295_1553 ?_
  refine g_sld hX d_295_1554 b1 ?_
  refine g_aload_n d_295_1555 rfl rfl ?_
  refine g_iload_n d_295_1556 rfl rfl ?_
  refine g_iconst (v := 3) d_295_1557 (by decide) ?_
  refine g_iadd d_295_1558 ?_
  refine g_sld hX d_295_1559 b2 ?_
  exact g_callVI (mj := 157) 8 [.int (xs (Int32.toNatClampNeg (v3 + 1))), .int (xs (Int32.toNatClampNeg (v3 + 2))), .int (xs (Int32.toNatClampNeg (v3 + 3)))] [] d_295_1560 wd_328 mo_157 mc_157 mv_157 rfl rfl rfl (Nat.le_of_ble_eq_true rfl) rfl hdd hC kk

theorem k_295_1563 {X : GX} {d : Nat} {h : Hp} {v3 : Int32} {s0 : Int32} {L : Nat} {xs : Nat → Int32} (hX : X.2.2.2.2 = some (L, xs)) {d' : Nat} {Q' : Int32 → Hp → Prop} (b0 : vp_in (v3 + 1) L) (b1 : vp_in (v3 + 2) L) (b2 : vp_in (v3 + 3) L) (hdd : d' < d) (hC : CI d' 282 [.ref 84, .int (xs (Int32.toNatClampNeg (v3 + 1))), .int (xs (Int32.toNatClampNeg (v3 + 2))), .int (xs (Int32.toNatClampNeg (v3 + 3)))] h Q') (kk : ∀ x h', Q' x h' → G X d 295 1582 [some (.ref 999), some (.ref 0), some (.ref 84), some (.int v3)] [.int x, .int s0] h') : G X d 295 1563 [some (.ref 999), some (.ref 0), some (.ref 84), some (.int v3)] [.int s0] h := by
  refine g_aload_n d_295_1563 rfl rfl ?_
  refine g_aload_n d_295_1564 rfl rfl ?_
  refine g_iload_n d_295_1565 rfl rfl ?_
  refine g_iconst (v := 1) d_295_1566 (by decide) ?_
  refine g_iadd d_295_1567 ?_
  refine g_sld hX d_295_1568 b0 ?_
  refine g_aload_n d_295_1569 rfl rfl ?_
  refine g_iload_n d_295_1570 rfl rfl ?_
  refine g_iconst (v := 2) d_295_1571 (by decide) ?_
  refine g_iadd d_295_1572 ?_
  refine g_sld hX d_295_1573 b1 ?_
  refine g_aload_n d_295_1574 rfl rfl ?_
  refine g_iload_n d_295_1575 rfl rfl ?_
  refine g_iconst (v := 3) d_295_1576 (by decide) ?_
  refine g_iadd d_295_1577 ?_
  refine g_sld hX d_295_1578 b2 ?_
  exact g_callVI (mj := 282) 9 [.int (xs (Int32.toNatClampNeg (v3 + 1))), .int (xs (Int32.toNatClampNeg (v3 + 2))), .int (xs (Int32.toNatClampNeg (v3 + 3)))] [.int s0] d_295_1579 wd_539 mo_282 mc_282 mv_282 rfl rfl rfl (Nat.le_of_ble_eq_true rfl) rfl hdd hC kk

theorem k_295_1582 {X : GX} {d : Nat} {h : Hp} {v3 : Int32} {s0 : Int32} {s1 : Int32} {L : Nat} {xs : Nat → Int32} (hX : X.2.2.2.2 = some (L, xs)) (kt : s1 = s0 → G X d 295 1735 [some (.ref 999), some (.ref 0), some (.ref 84), some (.int v3)] [] h) (kf : ¬ s1 = s0 → G X d 295 1585 [none, none, none, none] [] h) : G X d 295 1582 [some (.ref 999), some (.ref 0), some (.ref 84), some (.int v3)] [.int s0, .int s1] h := by
  exact g_icmp_eq (tgt := 1735) d_295_1582 (by decide) kt (fun q => g_mask [false, false, false, false] (kf q))

theorem k_295_1585 {X : GX} {d : Nat} {h : Hp} {L : Nat} {xs : Nat → Int32} (hX : X.2.2.2.2 = some (L, xs)) (hq : RtX X (some (.int 0)) h) : G X d 295 1585 [none, none, none, none] [] h := by
  refine g_iconst (v := 0) d_295_1585 (by decide) ?_
  exact g_retz d_295_1586 rfl z01_0 hq

theorem k_295_1587 {X : GX} {d : Nat} {h : Hp} {v3 : Int32} {L : Nat} {xs : Nat → Int32} (hX : X.2.2.2.2 = some (L, xs)) {d' : Nat} {Q' : Int32 → Hp → Prop} (b0 : vp_in (v3 + 1) L) (b1 : vp_in (v3 + 2) L) (hdd : d' < d) (hC : CI d' 161 [.ref 0, .int (xs (Int32.toNatClampNeg (v3 + 1))), .int (xs (Int32.toNatClampNeg (v3 + 2)))] h Q') (kk : ∀ x h', Q' x h' → G X d 295 1601 [some (.ref 999), some (.ref 0), some (.ref 84), some (.int v3)] [.int x] h') : G X d 295 1587 [some (.ref 999), some (.ref 0), some (.ref 84), some (.int v3)] [] h := by
  refine g_aload_n d_295_1587 rfl rfl ?_
  refine g_aload_n d_295_1588 rfl rfl ?_
  refine g_iload_n d_295_1589 rfl rfl ?_
  refine g_iconst (v := 1) d_295_1590 (by decide) ?_
  refine g_iadd d_295_1591 ?_
  refine g_sld hX d_295_1592 b0 ?_
  refine g_aload_n d_295_1593 rfl rfl ?_
  refine g_iload_n d_295_1594 rfl rfl ?_
  refine g_iconst (v := 2) d_295_1595 (by decide) ?_
  refine g_iadd d_295_1596 ?_
  refine g_sld hX d_295_1597 b1 ?_
  exact g_callVI (mj := 161) 8 [.int (xs (Int32.toNatClampNeg (v3 + 1))), .int (xs (Int32.toNatClampNeg (v3 + 2)))] [] d_295_1598 wd_333 mo_161 mc_161 mv_161 rfl rfl rfl (Nat.le_of_ble_eq_true rfl) rfl hdd hC kk

theorem k_295_1601 {X : GX} {d : Nat} {h : Hp} {v3 : Int32} {s0 : Int32} {L : Nat} {xs : Nat → Int32} (hX : X.2.2.2.2 = some (L, xs)) {d' : Nat} {Q' : Int32 → Hp → Prop} (b0 : vp_in (v3 + 1) L) (b1 : vp_in (v3 + 2) L) (hdd : d' < d) (hC : CI d' 283 [.ref 84, .int (xs (Int32.toNatClampNeg (v3 + 1))), .int (xs (Int32.toNatClampNeg (v3 + 2)))] h Q') (kk : ∀ x h', Q' x h' → G X d 295 1615 [some (.ref 999), some (.ref 0), some (.ref 84), some (.int v3)] [.int x, .int s0] h') : G X d 295 1601 [some (.ref 999), some (.ref 0), some (.ref 84), some (.int v3)] [.int s0] h := by
  refine g_aload_n d_295_1601 rfl rfl ?_
  refine g_aload_n d_295_1602 rfl rfl ?_
  refine g_iload_n d_295_1603 rfl rfl ?_
  refine g_iconst (v := 1) d_295_1604 (by decide) ?_
  refine g_iadd d_295_1605 ?_
  refine g_sld hX d_295_1606 b0 ?_
  refine g_aload_n d_295_1607 rfl rfl ?_
  refine g_iload_n d_295_1608 rfl rfl ?_
  refine g_iconst (v := 2) d_295_1609 (by decide) ?_
  refine g_iadd d_295_1610 ?_
  refine g_sld hX d_295_1611 b1 ?_
  exact g_callVI (mj := 283) 9 [.int (xs (Int32.toNatClampNeg (v3 + 1))), .int (xs (Int32.toNatClampNeg (v3 + 2)))] [.int s0] d_295_1612 wd_540 mo_283 mc_283 mv_283 rfl rfl rfl (Nat.le_of_ble_eq_true rfl) rfl hdd hC kk

theorem k_295_1615 {X : GX} {d : Nat} {h : Hp} {v3 : Int32} {s0 : Int32} {s1 : Int32} {L : Nat} {xs : Nat → Int32} (hX : X.2.2.2.2 = some (L, xs)) (kt : s1 = s0 → G X d 295 1735 [some (.ref 999), some (.ref 0), some (.ref 84), some (.int v3)] [] h) (kf : ¬ s1 = s0 → G X d 295 1618 [none, none, none, none] [] h) : G X d 295 1615 [some (.ref 999), some (.ref 0), some (.ref 84), some (.int v3)] [.int s0, .int s1] h := by
  exact g_icmp_eq (tgt := 1735) d_295_1615 (by decide) kt (fun q => g_mask [false, false, false, false] (kf q))

theorem k_295_1618 {X : GX} {d : Nat} {h : Hp} {L : Nat} {xs : Nat → Int32} (hX : X.2.2.2.2 = some (L, xs)) (hq : RtX X (some (.int 0)) h) : G X d 295 1618 [none, none, none, none] [] h := by
  refine g_iconst (v := 0) d_295_1618 (by decide) ?_
  exact g_retz d_295_1619 rfl z01_0 hq

theorem k_295_1620 {X : GX} {d : Nat} {h : Hp} {v3 : Int32} {L : Nat} {xs : Nat → Int32} (hX : X.2.2.2.2 = some (L, xs)) {d' : Nat} {Q' : Int32 → Hp → Prop} (b0 : vp_in (v3 + 1) L) (b1 : vp_in (v3 + 2) L) (b2 : vp_in (v3 + 3) L) (hdd : d' < d) (hC : CI d' 163 [.ref 0, .int (xs (Int32.toNatClampNeg (v3 + 1))), .int (xs (Int32.toNatClampNeg (v3 + 2))), .int (xs (Int32.toNatClampNeg (v3 + 3)))] h Q') (kk : ∀ x h', Q' x h' → G X d 295 1639 [some (.ref 999), some (.ref 0), some (.ref 84), some (.int v3)] [.int x] h') : G X d 295 1620 [some (.ref 999), some (.ref 0), some (.ref 84), some (.int v3)] [] h := by
  refine g_aload_n d_295_1620 rfl rfl ?_
  refine g_aload_n d_295_1621 rfl rfl ?_
  refine g_iload_n d_295_1622 rfl rfl ?_
  refine g_iconst (v := 1) d_295_1623 (by decide) ?_
  refine g_iadd d_295_1624 ?_
  refine g_sld hX d_295_1625 b0 ?_
  refine g_aload_n d_295_1626 rfl rfl ?_
  refine g_iload_n d_295_1627 rfl rfl ?_
  refine g_iconst (v := 2) d_295_1628 (by decide) ?_
  refine g_iadd d_295_1629 ?_
  refine g_sld hX d_295_1630 b1 ?_
  refine g_aload_n d_295_1631 rfl rfl ?_
  refine g_iload_n d_295_1632 rfl rfl ?_
  refine g_iconst (v := 3) d_295_1633 (by decide) ?_
  refine g_iadd d_295_1634 ?_
  refine g_sld hX d_295_1635 b2 ?_
  exact g_callVI (mj := 163) 8 [.int (xs (Int32.toNatClampNeg (v3 + 1))), .int (xs (Int32.toNatClampNeg (v3 + 2))), .int (xs (Int32.toNatClampNeg (v3 + 3)))] [] d_295_1636 wd_336 mo_163 mc_163 mv_163 rfl rfl rfl (Nat.le_of_ble_eq_true rfl) rfl hdd hC kk

theorem k_295_1639 {X : GX} {d : Nat} {h : Hp} {v3 : Int32} {s0 : Int32} {L : Nat} {xs : Nat → Int32} (hX : X.2.2.2.2 = some (L, xs)) {d' : Nat} {Q' : Int32 → Hp → Prop} (b0 : vp_in (v3 + 1) L) (b1 : vp_in (v3 + 2) L) (b2 : vp_in (v3 + 3) L) (hdd : d' < d) (hC : CI d' 285 [.ref 84, .int (xs (Int32.toNatClampNeg (v3 + 1))), .int (xs (Int32.toNatClampNeg (v3 + 2))), .int (xs (Int32.toNatClampNeg (v3 + 3)))] h Q') (kk : ∀ x h', Q' x h' → G X d 295 1658 [some (.ref 999), some (.ref 0), some (.ref 84), some (.int v3)] [.int x, .int s0] h') : G X d 295 1639 [some (.ref 999), some (.ref 0), some (.ref 84), some (.int v3)] [.int s0] h := by
  refine g_aload_n d_295_1639 rfl rfl ?_
  refine g_aload_n d_295_1640 rfl rfl ?_
  refine g_iload_n d_295_1641 rfl rfl ?_
  refine g_iconst (v := 1) d_295_1642 (by decide) ?_
  refine g_iadd d_295_1643 ?_
  refine g_sld hX d_295_1644 b0 ?_
  refine g_aload_n d_295_1645 rfl rfl ?_
  refine g_iload_n d_295_1646 rfl rfl ?_
  refine g_iconst (v := 2) d_295_1647 (by decide) ?_
  refine g_iadd d_295_1648 ?_
  refine g_sld hX d_295_1649 b1 ?_
  refine g_aload_n d_295_1650 rfl rfl ?_
  refine g_iload_n d_295_1651 rfl rfl ?_
  refine g_iconst (v := 3) d_295_1652 (by decide) ?_
  refine g_iadd d_295_1653 ?_
  refine g_sld hX d_295_1654 b2 ?_
  exact g_callVI (mj := 285) 9 [.int (xs (Int32.toNatClampNeg (v3 + 1))), .int (xs (Int32.toNatClampNeg (v3 + 2))), .int (xs (Int32.toNatClampNeg (v3 + 3)))] [.int s0] d_295_1655 wd_543 mo_285 mc_285 mv_285 rfl rfl rfl (Nat.le_of_ble_eq_true rfl) rfl hdd hC kk

theorem k_295_1658 {X : GX} {d : Nat} {h : Hp} {v3 : Int32} {s0 : Int32} {s1 : Int32} {L : Nat} {xs : Nat → Int32} (hX : X.2.2.2.2 = some (L, xs)) (kt : s1 = s0 → G X d 295 1735 [some (.ref 999), some (.ref 0), some (.ref 84), some (.int v3)] [] h) (kf : ¬ s1 = s0 → G X d 295 1661 [none, none, none, none] [] h) : G X d 295 1658 [some (.ref 999), some (.ref 0), some (.ref 84), some (.int v3)] [.int s0, .int s1] h := by
  exact g_icmp_eq (tgt := 1735) d_295_1658 (by decide) kt (fun q => g_mask [false, false, false, false] (kf q))

theorem k_295_1661 {X : GX} {d : Nat} {h : Hp} {L : Nat} {xs : Nat → Int32} (hX : X.2.2.2.2 = some (L, xs)) (hq : RtX X (some (.int 0)) h) : G X d 295 1661 [none, none, none, none] [] h := by
  refine g_iconst (v := 0) d_295_1661 (by decide) ?_
  exact g_retz d_295_1662 rfl z01_0 hq

theorem k_295_1663 {X : GX} {d : Nat} {h : Hp} {v3 : Int32} {L : Nat} {xs : Nat → Int32} (hX : X.2.2.2.2 = some (L, xs)) {d' : Nat} {Q' : Int32 → Hp → Prop} (b0 : vp_in (v3 + 1) L) (hdd : d' < d) (hC : CI d' 169 [.ref 0, .int (xs (Int32.toNatClampNeg (v3 + 1)))] h Q') (kk : ∀ x h', Q' x h' → G X d 295 1672 [some (.ref 999), some (.ref 0), some (.ref 84), some (.int v3)] [.int x] h') : G X d 295 1663 [some (.ref 999), some (.ref 0), some (.ref 84), some (.int v3)] [] h := by
  refine g_aload_n d_295_1663 rfl rfl ?_
  refine g_aload_n d_295_1664 rfl rfl ?_
  refine g_iload_n d_295_1665 rfl rfl ?_
  refine g_iconst (v := 1) d_295_1666 (by decide) ?_
  refine g_iadd d_295_1667 ?_
  refine g_sld hX d_295_1668 b0 ?_
  exact g_callVI (mj := 169) 8 [.int (xs (Int32.toNatClampNeg (v3 + 1)))] [] d_295_1669 wd_343 mo_169 mc_169 mv_169 rfl rfl rfl (Nat.le_of_ble_eq_true rfl) rfl hdd hC kk

theorem k_295_1672 {X : GX} {d : Nat} {h : Hp} {v3 : Int32} {s0 : Int32} {L : Nat} {xs : Nat → Int32} (hX : X.2.2.2.2 = some (L, xs)) {d' : Nat} {Q' : Int32 → Hp → Prop} (b0 : vp_in (v3 + 1) L) (hdd : d' < d) (hC : CI d' 291 [.ref 84, .int (xs (Int32.toNatClampNeg (v3 + 1)))] h Q') (kk : ∀ x h', Q' x h' → G X d 295 1681 [some (.ref 999), some (.ref 0), some (.ref 84), some (.int v3)] [.int x, .int s0] h') : G X d 295 1672 [some (.ref 999), some (.ref 0), some (.ref 84), some (.int v3)] [.int s0] h := by
  refine g_aload_n d_295_1672 rfl rfl ?_
  refine g_aload_n d_295_1673 rfl rfl ?_
  refine g_iload_n d_295_1674 rfl rfl ?_
  refine g_iconst (v := 1) d_295_1675 (by decide) ?_
  refine g_iadd d_295_1676 ?_
  refine g_sld hX d_295_1677 b0 ?_
  exact g_callVI (mj := 291) 9 [.int (xs (Int32.toNatClampNeg (v3 + 1)))] [.int s0] d_295_1678 wd_549 mo_291 mc_291 mv_291 rfl rfl rfl (Nat.le_of_ble_eq_true rfl) rfl hdd hC kk

theorem k_295_1681 {X : GX} {d : Nat} {h : Hp} {v3 : Int32} {s0 : Int32} {s1 : Int32} {L : Nat} {xs : Nat → Int32} (hX : X.2.2.2.2 = some (L, xs)) (kt : s1 = s0 → G X d 295 1735 [some (.ref 999), some (.ref 0), some (.ref 84), some (.int v3)] [] h) (kf : ¬ s1 = s0 → G X d 295 1684 [none, none, none, none] [] h) : G X d 295 1681 [some (.ref 999), some (.ref 0), some (.ref 84), some (.int v3)] [.int s0, .int s1] h := by
  exact g_icmp_eq (tgt := 1735) d_295_1681 (by decide) kt (fun q => g_mask [false, false, false, false] (kf q))

theorem k_295_1684 {X : GX} {d : Nat} {h : Hp} {L : Nat} {xs : Nat → Int32} (hX : X.2.2.2.2 = some (L, xs)) (hq : RtX X (some (.int 0)) h) : G X d 295 1684 [none, none, none, none] [] h := by
  refine g_iconst (v := 0) d_295_1684 (by decide) ?_
  exact g_retz d_295_1685 rfl z01_0 hq

theorem k_295_1686 {X : GX} {d : Nat} {h : Hp} {v3 : Int32} {L : Nat} {xs : Nat → Int32} (hX : X.2.2.2.2 = some (L, xs)) {d' : Nat} {Q' : Int32 → Hp → Prop} (b0 : vp_in (v3 + 1) L) (hdd : d' < d) (hC : CI d' 170 [.ref 0, .int (xs (Int32.toNatClampNeg (v3 + 1)))] h Q') (kk : ∀ x h', Q' x h' → G X d 295 1695 [some (.ref 999), some (.ref 0), some (.ref 84), some (.int v3)] [.int x] h') : G X d 295 1686 [some (.ref 999), some (.ref 0), some (.ref 84), some (.int v3)] [] h := by
  refine g_aload_n d_295_1686 rfl rfl ?_
  refine g_aload_n d_295_1687 rfl rfl ?_
  refine g_iload_n d_295_1688 rfl rfl ?_
  refine g_iconst (v := 1) d_295_1689 (by decide) ?_
  refine g_iadd d_295_1690 ?_
  refine g_sld hX d_295_1691 b0 ?_
  exact g_callVI (mj := 170) 8 [.int (xs (Int32.toNatClampNeg (v3 + 1)))] [] d_295_1692 wd_344 mo_170 mc_170 mv_170 rfl rfl rfl (Nat.le_of_ble_eq_true rfl) rfl hdd hC kk

theorem k_295_1695 {X : GX} {d : Nat} {h : Hp} {v3 : Int32} {s0 : Int32} {L : Nat} {xs : Nat → Int32} (hX : X.2.2.2.2 = some (L, xs)) {d' : Nat} {Q' : Int32 → Hp → Prop} (b0 : vp_in (v3 + 1) L) (hdd : d' < d) (hC : CI d' 292 [.ref 84, .int (xs (Int32.toNatClampNeg (v3 + 1)))] h Q') (kk : ∀ x h', Q' x h' → G X d 295 1704 [some (.ref 999), some (.ref 0), some (.ref 84), some (.int v3)] [.int x, .int s0] h') : G X d 295 1695 [some (.ref 999), some (.ref 0), some (.ref 84), some (.int v3)] [.int s0] h := by
  refine g_aload_n d_295_1695 rfl rfl ?_
  refine g_aload_n d_295_1696 rfl rfl ?_
  refine g_iload_n d_295_1697 rfl rfl ?_
  refine g_iconst (v := 1) d_295_1698 (by decide) ?_
  refine g_iadd d_295_1699 ?_
  refine g_sld hX d_295_1700 b0 ?_
  exact g_callVI (mj := 292) 9 [.int (xs (Int32.toNatClampNeg (v3 + 1)))] [.int s0] d_295_1701 wd_550 mo_292 mc_292 mv_292 rfl rfl rfl (Nat.le_of_ble_eq_true rfl) rfl hdd hC kk

theorem k_295_1704 {X : GX} {d : Nat} {h : Hp} {v3 : Int32} {s0 : Int32} {s1 : Int32} {L : Nat} {xs : Nat → Int32} (hX : X.2.2.2.2 = some (L, xs)) (kt : s1 = s0 → G X d 295 1735 [some (.ref 999), some (.ref 0), some (.ref 84), some (.int v3)] [] h) (kf : ¬ s1 = s0 → G X d 295 1707 [none, none, none, none] [] h) : G X d 295 1704 [some (.ref 999), some (.ref 0), some (.ref 84), some (.int v3)] [.int s0, .int s1] h := by
  exact g_icmp_eq (tgt := 1735) d_295_1704 (by decide) kt (fun q => g_mask [false, false, false, false] (kf q))

theorem k_295_1707 {X : GX} {d : Nat} {h : Hp} {L : Nat} {xs : Nat → Int32} (hX : X.2.2.2.2 = some (L, xs)) (hq : RtX X (some (.int 0)) h) : G X d 295 1707 [none, none, none, none] [] h := by
  refine g_iconst (v := 0) d_295_1707 (by decide) ?_
  exact g_retz d_295_1708 rfl z01_0 hq

theorem k_295_1709 {X : GX} {d : Nat} {h : Hp} {v3 : Int32} {L : Nat} {xs : Nat → Int32} (hX : X.2.2.2.2 = some (L, xs)) {d' : Nat} {Q' : Int32 → Hp → Prop} (hdd : d' < d) (hC : CI d' 171 [.ref 0] h Q') (kk : ∀ x h', Q' x h' → G X d 295 1713 [some (.ref 999), some (.ref 0), some (.ref 84), some (.int v3)] [.int x] h') : G X d 295 1709 [some (.ref 999), some (.ref 0), some (.ref 84), some (.int v3)] [] h := by
  refine g_aload_n d_295_1709 rfl rfl ?_
  exact g_callVI (mj := 171) 8 [] [] d_295_1710 wd_345 mo_171 mc_171 mv_171 rfl rfl rfl (Nat.le_of_ble_eq_true rfl) rfl hdd hC kk

theorem k_295_1713 {X : GX} {d : Nat} {h : Hp} {v3 : Int32} {s0 : Int32} {L : Nat} {xs : Nat → Int32} (hX : X.2.2.2.2 = some (L, xs)) {d' : Nat} {Q' : Int32 → Hp → Prop} (hdd : d' < d) (hC : CI d' 293 [.ref 84] h Q') (kk : ∀ x h', Q' x h' → G X d 295 1717 [some (.ref 999), some (.ref 0), some (.ref 84), some (.int v3)] [.int x, .int s0] h') : G X d 295 1713 [some (.ref 999), some (.ref 0), some (.ref 84), some (.int v3)] [.int s0] h := by
  refine g_aload_n d_295_1713 rfl rfl ?_
  exact g_callVI (mj := 293) 9 [] [.int s0] d_295_1714 wd_551 mo_293 mc_293 mv_293 rfl rfl rfl (Nat.le_of_ble_eq_true rfl) rfl hdd hC kk

theorem k_295_1717 {X : GX} {d : Nat} {h : Hp} {v3 : Int32} {s0 : Int32} {s1 : Int32} {L : Nat} {xs : Nat → Int32} (hX : X.2.2.2.2 = some (L, xs)) (kt : s1 = s0 → G X d 295 1735 [some (.ref 999), some (.ref 0), some (.ref 84), some (.int v3)] [] h) (kf : ¬ s1 = s0 → G X d 295 1720 [none, none, none, none] [] h) : G X d 295 1717 [some (.ref 999), some (.ref 0), some (.ref 84), some (.int v3)] [.int s0, .int s1] h := by
  exact g_icmp_eq (tgt := 1735) d_295_1717 (by decide) kt (fun q => g_mask [false, false, false, false] (kf q))

theorem k_295_1720 {X : GX} {d : Nat} {h : Hp} {L : Nat} {xs : Nat → Int32} (hX : X.2.2.2.2 = some (L, xs)) (hq : RtX X (some (.int 0)) h) : G X d 295 1720 [none, none, none, none] [] h := by
  refine g_iconst (v := 0) d_295_1720 (by decide) ?_
  exact g_retz d_295_1721 rfl z01_0 hq

theorem k_295_1722 {X : GX} {d : Nat} {h : Hp} {v3 : Int32} {L : Nat} {xs : Nat → Int32} (hX : X.2.2.2.2 = some (L, xs)) {d' : Nat} {Q' : Int32 → Hp → Prop} (hdd : d' < d) (hC : CI d' 174 [.ref 0] h Q') (kk : ∀ x h', Q' x h' → G X d 295 1726 [some (.ref 999), some (.ref 0), some (.ref 84), some (.int v3)] [.int x] h') : G X d 295 1722 [some (.ref 999), some (.ref 0), some (.ref 84), some (.int v3)] [] h := by
  refine g_aload_n d_295_1722 rfl rfl ?_
  exact g_callVI (mj := 174) 8 [] [] d_295_1723 wd_352 mo_174 mc_174 mv_174 rfl rfl rfl (Nat.le_of_ble_eq_true rfl) rfl hdd hC kk

theorem k_295_1726 {X : GX} {d : Nat} {h : Hp} {v3 : Int32} {s0 : Int32} {L : Nat} {xs : Nat → Int32} (hX : X.2.2.2.2 = some (L, xs)) {d' : Nat} {Q' : Int32 → Hp → Prop} (hdd : d' < d) (hC : CI d' 294 [.ref 84] h Q') (kk : ∀ x h', Q' x h' → G X d 295 1730 [some (.ref 999), some (.ref 0), some (.ref 84), some (.int v3)] [.int x, .int s0] h') : G X d 295 1726 [some (.ref 999), some (.ref 0), some (.ref 84), some (.int v3)] [.int s0] h := by
  refine g_aload_n d_295_1726 rfl rfl ?_
  exact g_callVI (mj := 294) 9 [] [.int s0] d_295_1727 wd_552 mo_294 mc_294 mv_294 rfl rfl rfl (Nat.le_of_ble_eq_true rfl) rfl hdd hC kk

theorem k_295_1730 {X : GX} {d : Nat} {h : Hp} {v3 : Int32} {s0 : Int32} {s1 : Int32} {L : Nat} {xs : Nat → Int32} (hX : X.2.2.2.2 = some (L, xs)) (kt : s1 = s0 → G X d 295 1735 [some (.ref 999), some (.ref 0), some (.ref 84), some (.int v3)] [] h) (kf : ¬ s1 = s0 → G X d 295 1733 [none, none, none, none] [] h) : G X d 295 1730 [some (.ref 999), some (.ref 0), some (.ref 84), some (.int v3)] [.int s0, .int s1] h := by
  exact g_icmp_eq (tgt := 1735) d_295_1730 (by decide) kt (fun q => g_mask [false, false, false, false] (kf q))

theorem k_295_1733 {X : GX} {d : Nat} {h : Hp} {L : Nat} {xs : Nat → Int32} (hX : X.2.2.2.2 = some (L, xs)) (hq : RtX X (some (.int 0)) h) : G X d 295 1733 [none, none, none, none] [] h := by
  refine g_iconst (v := 0) d_295_1733 (by decide) ?_
  exact g_retz d_295_1734 rfl z01_0 hq

theorem k_295_1735 {X : GX} {d : Nat} {h : Hp} {v3 : Int32} {L : Nat} {xs : Nat → Int32} (hX : X.2.2.2.2 = some (L, xs)) (kk : G X d 295 18 [some (.ref 999), some (.ref 0), some (.ref 84), some (.int (v3 + 5))] [] h) : G X d 295 1735 [some (.ref 999), some (.ref 0), some (.ref 84), some (.int v3)] [] h := by
  refine g_iinc (w := 5) d_295_1735 rfl (by decide) (Nat.le_of_ble_eq_true rfl) rfl ?_
  refine g_goto (tgt := 18) d_295_1738 (by decide) ?_
  exact kk

theorem k_295_1741 {X : GX} {d : Nat} {h : Hp} {L : Nat} {xs : Nat → Int32} (hX : X.2.2.2.2 = some (L, xs)) (hq : RtX X (some (.int 1)) h) : G X d 295 1741 [none, none, none, none] [] h := by
  refine g_iconst (v := 1) d_295_1741 (by decide) ?_
  exact g_retz d_295_1742 rfl z01_1 hq

