/-! 105 java/lang/Integer.bitCount(I)I -/
theorem k_105_0 {X : GX} {d : Nat} {h : Hp} {v0 : Int32} (hq : RtX X (some (.int ((((((((v0 - (((v0.toUInt32 >>> ((1 : Int32).toUInt32 &&& Int32.toUInt32 31)).toInt32) &&& 1431655765)) &&& 858993459) + ((((v0 - (((v0.toUInt32 >>> ((1 : Int32).toUInt32 &&& Int32.toUInt32 31)).toInt32) &&& 1431655765)).toUInt32 >>> ((2 : Int32).toUInt32 &&& Int32.toUInt32 31)).toInt32) &&& 858993459)) + (((((v0 - (((v0.toUInt32 >>> ((1 : Int32).toUInt32 &&& Int32.toUInt32 31)).toInt32) &&& 1431655765)) &&& 858993459) + ((((v0 - (((v0.toUInt32 >>> ((1 : Int32).toUInt32 &&& Int32.toUInt32 31)).toInt32) &&& 1431655765)).toUInt32 >>> ((2 : Int32).toUInt32 &&& Int32.toUInt32 31)).toInt32) &&& 858993459)).toUInt32 >>> ((4 : Int32).toUInt32 &&& Int32.toUInt32 31)).toInt32)) &&& 252645135) + (((((((v0 - (((v0.toUInt32 >>> ((1 : Int32).toUInt32 &&& Int32.toUInt32 31)).toInt32) &&& 1431655765)) &&& 858993459) + ((((v0 - (((v0.toUInt32 >>> ((1 : Int32).toUInt32 &&& Int32.toUInt32 31)).toInt32) &&& 1431655765)).toUInt32 >>> ((2 : Int32).toUInt32 &&& Int32.toUInt32 31)).toInt32) &&& 858993459)) + (((((v0 - (((v0.toUInt32 >>> ((1 : Int32).toUInt32 &&& Int32.toUInt32 31)).toInt32) &&& 1431655765)) &&& 858993459) + ((((v0 - (((v0.toUInt32 >>> ((1 : Int32).toUInt32 &&& Int32.toUInt32 31)).toInt32) &&& 1431655765)).toUInt32 >>> ((2 : Int32).toUInt32 &&& Int32.toUInt32 31)).toInt32) &&& 858993459)).toUInt32 >>> ((4 : Int32).toUInt32 &&& Int32.toUInt32 31)).toInt32)) &&& 252645135).toUInt32 >>> ((8 : Int32).toUInt32 &&& Int32.toUInt32 31)).toInt32)) + ((((((((v0 - (((v0.toUInt32 >>> ((1 : Int32).toUInt32 &&& Int32.toUInt32 31)).toInt32) &&& 1431655765)) &&& 858993459) + ((((v0 - (((v0.toUInt32 >>> ((1 : Int32).toUInt32 &&& Int32.toUInt32 31)).toInt32) &&& 1431655765)).toUInt32 >>> ((2 : Int32).toUInt32 &&& Int32.toUInt32 31)).toInt32) &&& 858993459)) + (((((v0 - (((v0.toUInt32 >>> ((1 : Int32).toUInt32 &&& Int32.toUInt32 31)).toInt32) &&& 1431655765)) &&& 858993459) + ((((v0 - (((v0.toUInt32 >>> ((1 : Int32).toUInt32 &&& Int32.toUInt32 31)).toInt32) &&& 1431655765)).toUInt32 >>> ((2 : Int32).toUInt32 &&& Int32.toUInt32 31)).toInt32) &&& 858993459)).toUInt32 >>> ((4 : Int32).toUInt32 &&& Int32.toUInt32 31)).toInt32)) &&& 252645135) + (((((((v0 - (((v0.toUInt32 >>> ((1 : Int32).toUInt32 &&& Int32.toUInt32 31)).toInt32) &&& 1431655765)) &&& 858993459) + ((((v0 - (((v0.toUInt32 >>> ((1 : Int32).toUInt32 &&& Int32.toUInt32 31)).toInt32) &&& 1431655765)).toUInt32 >>> ((2 : Int32).toUInt32 &&& Int32.toUInt32 31)).toInt32) &&& 858993459)) + (((((v0 - (((v0.toUInt32 >>> ((1 : Int32).toUInt32 &&& Int32.toUInt32 31)).toInt32) &&& 1431655765)) &&& 858993459) + ((((v0 - (((v0.toUInt32 >>> ((1 : Int32).toUInt32 &&& Int32.toUInt32 31)).toInt32) &&& 1431655765)).toUInt32 >>> ((2 : Int32).toUInt32 &&& Int32.toUInt32 31)).toInt32) &&& 858993459)).toUInt32 >>> ((4 : Int32).toUInt32 &&& Int32.toUInt32 31)).toInt32)) &&& 252645135).toUInt32 >>> ((8 : Int32).toUInt32 &&& Int32.toUInt32 31)).toInt32)).toUInt32 >>> ((16 : Int32).toUInt32 &&& Int32.toUInt32 31)).toInt32)) &&& 63))) h) : G X d 105 0 [some (.int v0)] [] h := by
  refine g_iload_n d_105_0 rfl rfl ?_
  refine g_iload_n d_105_1 rfl rfl ?_
  refine g_iconst (v := 1) d_105_2 (by decide) ?_
  refine g_iushr d_105_3 ?_
  refine g_ldc_w (v := 1431655765) d_105_4 wd_260 ?_
  refine g_iand d_105_7 ?_
  refine g_isub d_105_8 ?_
  refine g_istore_n d_105_9 rfl (Nat.le_of_ble_eq_true rfl) rfl ?_
  refine g_iload_n d_105_10 rfl rfl ?_
  refine g_ldc_w (v := 858993459) d_105_11 wd_261 ?_
  refine g_iand d_105_14 ?_
  refine g_iload_n d_105_15 rfl rfl ?_
  refine g_iconst (v := 2) d_105_16 (by decide) ?_
  refine g_iushr d_105_17 ?_
  refine g_ldc_w (v := 858993459) d_105_18 wd_261 ?_
  refine g_iand d_105_21 ?_
  refine g_iadd d_105_22 ?_
  refine g_istore_n d_105_23 rfl (Nat.le_of_ble_eq_true rfl) rfl ?_
  refine g_iload_n d_105_24 rfl rfl ?_
  refine g_iload_n d_105_25 rfl rfl ?_
  refine g_iconst (v := 4) d_105_26 (by decide) ?_
  refine g_iushr d_105_27 ?_
  refine g_iadd d_105_28 ?_
  refine g_ldc_w (v := 252645135) d_105_29 wd_262 ?_
  refine g_iand d_105_32 ?_
  refine g_istore_n d_105_33 rfl (Nat.le_of_ble_eq_true rfl) rfl ?_
  refine g_iload_n d_105_34 rfl rfl ?_
  refine g_iload_n d_105_35 rfl rfl ?_
  refine g_bipush (v := 8) d_105_36 (by decide) ?_
  refine g_iushr d_105_38 ?_
  refine g_iadd d_105_39 ?_
  refine g_istore_n d_105_40 rfl (Nat.le_of_ble_eq_true rfl) rfl ?_
  refine g_iload_n d_105_41 rfl rfl ?_
  refine g_iload_n d_105_42 rfl rfl ?_
  refine g_bipush (v := 16) d_105_43 (by decide) ?_
  refine g_iushr d_105_45 ?_
  refine g_iadd d_105_46 ?_
  refine g_istore_n d_105_47 rfl (Nat.le_of_ble_eq_true rfl) rfl ?_
  refine g_iload_n d_105_48 rfl rfl ?_
  refine g_bipush (v := 63) d_105_49 (by decide) ?_
  refine g_iand d_105_51 ?_
  exact g_reti d_105_52 rfl hq

