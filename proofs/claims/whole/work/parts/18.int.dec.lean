/-! 105 java/lang/Integer.bitCount(I)I -/
theorem d_105_0 : decode (mth 105).2.1 0 = .ok (.iload_n 0, 1) := by decide +kernel
theorem d_105_1 : decode (mth 105).2.1 1 = .ok (.iload_n 0, 1) := by decide +kernel
theorem d_105_2 : decode (mth 105).2.1 2 = .ok (.iconst 1, 1) := by decide +kernel
theorem d_105_3 : decode (mth 105).2.1 3 = .ok (.iushr, 1) := by decide +kernel
theorem d_105_4 : decode (mth 105).2.1 4 = .ok (.ldc_w 265, 3) := by decide +kernel
theorem d_105_7 : decode (mth 105).2.1 7 = .ok (.iand, 1) := by decide +kernel
theorem d_105_8 : decode (mth 105).2.1 8 = .ok (.isub, 1) := by decide +kernel
theorem d_105_9 : decode (mth 105).2.1 9 = .ok (.istore_n 0, 1) := by decide +kernel
theorem d_105_10 : decode (mth 105).2.1 10 = .ok (.iload_n 0, 1) := by decide +kernel
theorem d_105_11 : decode (mth 105).2.1 11 = .ok (.ldc_w 266, 3) := by decide +kernel
theorem d_105_14 : decode (mth 105).2.1 14 = .ok (.iand, 1) := by decide +kernel
theorem d_105_15 : decode (mth 105).2.1 15 = .ok (.iload_n 0, 1) := by decide +kernel
theorem d_105_16 : decode (mth 105).2.1 16 = .ok (.iconst 2, 1) := by decide +kernel
theorem d_105_17 : decode (mth 105).2.1 17 = .ok (.iushr, 1) := by decide +kernel
theorem d_105_18 : decode (mth 105).2.1 18 = .ok (.ldc_w 266, 3) := by decide +kernel
theorem d_105_21 : decode (mth 105).2.1 21 = .ok (.iand, 1) := by decide +kernel
theorem d_105_22 : decode (mth 105).2.1 22 = .ok (.iadd, 1) := by decide +kernel
theorem d_105_23 : decode (mth 105).2.1 23 = .ok (.istore_n 0, 1) := by decide +kernel
theorem d_105_24 : decode (mth 105).2.1 24 = .ok (.iload_n 0, 1) := by decide +kernel
theorem d_105_25 : decode (mth 105).2.1 25 = .ok (.iload_n 0, 1) := by decide +kernel
theorem d_105_26 : decode (mth 105).2.1 26 = .ok (.iconst 4, 1) := by decide +kernel
theorem d_105_27 : decode (mth 105).2.1 27 = .ok (.iushr, 1) := by decide +kernel
theorem d_105_28 : decode (mth 105).2.1 28 = .ok (.iadd, 1) := by decide +kernel
theorem d_105_29 : decode (mth 105).2.1 29 = .ok (.ldc_w 267, 3) := by decide +kernel
theorem d_105_32 : decode (mth 105).2.1 32 = .ok (.iand, 1) := by decide +kernel
theorem d_105_33 : decode (mth 105).2.1 33 = .ok (.istore_n 0, 1) := by decide +kernel
theorem d_105_34 : decode (mth 105).2.1 34 = .ok (.iload_n 0, 1) := by decide +kernel
theorem d_105_35 : decode (mth 105).2.1 35 = .ok (.iload_n 0, 1) := by decide +kernel
theorem d_105_36 : decode (mth 105).2.1 36 = .ok (.bipush 8, 2) := by decide +kernel
theorem d_105_38 : decode (mth 105).2.1 38 = .ok (.iushr, 1) := by decide +kernel
theorem d_105_39 : decode (mth 105).2.1 39 = .ok (.iadd, 1) := by decide +kernel
theorem d_105_40 : decode (mth 105).2.1 40 = .ok (.istore_n 0, 1) := by decide +kernel
theorem d_105_41 : decode (mth 105).2.1 41 = .ok (.iload_n 0, 1) := by decide +kernel
theorem d_105_42 : decode (mth 105).2.1 42 = .ok (.iload_n 0, 1) := by decide +kernel
theorem d_105_43 : decode (mth 105).2.1 43 = .ok (.bipush 16, 2) := by decide +kernel
theorem d_105_45 : decode (mth 105).2.1 45 = .ok (.iushr, 1) := by decide +kernel
theorem d_105_46 : decode (mth 105).2.1 46 = .ok (.iadd, 1) := by decide +kernel
theorem d_105_47 : decode (mth 105).2.1 47 = .ok (.istore_n 0, 1) := by decide +kernel
theorem d_105_48 : decode (mth 105).2.1 48 = .ok (.iload_n 0, 1) := by decide +kernel
theorem d_105_49 : decode (mth 105).2.1 49 = .ok (.bipush 63, 2) := by decide +kernel
theorem d_105_51 : decode (mth 105).2.1 51 = .ok (.iand, 1) := by decide +kernel
theorem d_105_52 : decode (mth 105).2.1 52 = .ok (.ireturn, 1) := by decide +kernel
