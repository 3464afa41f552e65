/-! 18 PlayedTruth$Kind.learns(IIII)I -/
theorem d_18_0 : decode (mth 18).2.1 0 = .ok (.bipush 8, 2) := by decide +kernel
theorem d_18_2 : decode (mth 18).2.1 2 = .ok (.iload_n 1, 1) := by decide +kernel
theorem d_18_3 : decode (mth 18).2.1 3 = .ok (.imul, 1) := by decide +kernel
theorem d_18_4 : decode (mth 18).2.1 4 = .ok (.istore 4, 2) := by decide +kernel
theorem d_18_6 : decode (mth 18).2.1 6 = .ok (.iload_n 2, 1) := by decide +kernel
theorem d_18_7 : decode (mth 18).2.1 7 = .ok (.bipush 40, 2) := by decide +kernel
theorem d_18_9 : decode (mth 18).2.1 9 = .ok (.if_icmp .le 10, 3) := by decide +kernel
theorem d_18_12 : decode (mth 18).2.1 12 = .ok (.iload 4, 2) := by decide +kernel
theorem d_18_14 : decode (mth 18).2.1 14 = .ok (.iconst 2, 1) := by decide +kernel
theorem d_18_15 : decode (mth 18).2.1 15 = .ok (.idiv, 1) := by decide +kernel
theorem d_18_16 : decode (mth 18).2.1 16 = .ok (.goto 5, 3) := by decide +kernel
theorem d_18_19 : decode (mth 18).2.1 19 = .ok (.iload 4, 2) := by decide +kernel
theorem d_18_21 : decode (mth 18).2.1 21 = .ok (.istore 5, 2) := by decide +kernel
theorem d_18_23 : decode (mth 18).2.1 23 = .ok (.iconst 5, 1) := by decide +kernel
theorem d_18_24 : decode (mth 18).2.1 24 = .ok (.iload_n 1, 1) := by decide +kernel
theorem d_18_25 : decode (mth 18).2.1 25 = .ok (.imul, 1) := by decide +kernel
theorem d_18_26 : decode (mth 18).2.1 26 = .ok (.iconst 4, 1) := by decide +kernel
theorem d_18_27 : decode (mth 18).2.1 27 = .ok (.iadd, 1) := by decide +kernel
theorem d_18_28 : decode (mth 18).2.1 28 = .ok (.istore 6, 2) := by decide +kernel
theorem d_18_30 : decode (mth 18).2.1 30 = .ok (.iload_n 0, 1) := by decide +kernel
theorem d_18_31 : decode (mth 18).2.1 31 = .ok (.tableswitch 70 1 5 #[33, 41, 44, 53, 56], 33) := by decide +kernel
theorem d_18_64 : decode (mth 18).2.1 64 = .ok (.iload 4, 2) := by decide +kernel
theorem d_18_66 : decode (mth 18).2.1 66 = .ok (.iload_n 2, 1) := by decide +kernel
theorem d_18_67 : decode (mth 18).2.1 67 = .ok (.bipush 10, 2) := by decide +kernel
theorem d_18_69 : decode (mth 18).2.1 69 = .ok (.idiv, 1) := by decide +kernel
theorem d_18_70 : decode (mth 18).2.1 70 = .ok (.iadd, 1) := by decide +kernel
theorem d_18_71 : decode (mth 18).2.1 71 = .ok (.ireturn, 1) := by decide +kernel
theorem d_18_72 : decode (mth 18).2.1 72 = .ok (.iload 5, 2) := by decide +kernel
theorem d_18_74 : decode (mth 18).2.1 74 = .ok (.ireturn, 1) := by decide +kernel
theorem d_18_75 : decode (mth 18).2.1 75 = .ok (.iconst 0, 1) := by decide +kernel
theorem d_18_76 : decode (mth 18).2.1 76 = .ok (.iload 5, 2) := by decide +kernel
theorem d_18_78 : decode (mth 18).2.1 78 = .ok (.iconst 3, 1) := by decide +kernel
theorem d_18_79 : decode (mth 18).2.1 79 = .ok (.isub, 1) := by decide +kernel
theorem d_18_80 : decode (mth 18).2.1 80 = .ok (.invokestatic 9, 3) := by decide +kernel
theorem d_18_83 : decode (mth 18).2.1 83 = .ok (.ireturn, 1) := by decide +kernel
theorem d_18_84 : decode (mth 18).2.1 84 = .ok (.iload 6, 2) := by decide +kernel
theorem d_18_86 : decode (mth 18).2.1 86 = .ok (.ireturn, 1) := by decide +kernel
theorem d_18_87 : decode (mth 18).2.1 87 = .ok (.iload_n 3, 1) := by decide +kernel
theorem d_18_88 : decode (mth 18).2.1 88 = .ok (.iconst 2, 1) := by decide +kernel
theorem d_18_89 : decode (mth 18).2.1 89 = .ok (.irem, 1) := by decide +kernel
theorem d_18_90 : decode (mth 18).2.1 90 = .ok (.iconst 1, 1) := by decide +kernel
theorem d_18_91 : decode (mth 18).2.1 91 = .ok (.if_icmp .ne 7, 3) := by decide +kernel
theorem d_18_94 : decode (mth 18).2.1 94 = .ok (.iconst 0, 1) := by decide +kernel
theorem d_18_95 : decode (mth 18).2.1 95 = .ok (.goto 5, 3) := by decide +kernel
theorem d_18_98 : decode (mth 18).2.1 98 = .ok (.iload 6, 2) := by decide +kernel
theorem d_18_100 : decode (mth 18).2.1 100 = .ok (.ireturn, 1) := by decide +kernel
theorem d_18_101 : decode (mth 18).2.1 101 = .ok (.iload 4, 2) := by decide +kernel
theorem d_18_103 : decode (mth 18).2.1 103 = .ok (.ireturn, 1) := by decide +kernel
/-! 22 PlayedTruth$Kind.draws(IIII)I -/
theorem d_22_0 : decode (mth 22).2.1 0 = .ok (.iconst 0, 1) := by decide +kernel
theorem d_22_1 : decode (mth 22).2.1 1 = .ok (.bipush 10, 2) := by decide +kernel
theorem d_22_3 : decode (mth 22).2.1 3 = .ok (.iload_n 1, 1) := by decide +kernel
theorem d_22_4 : decode (mth 22).2.1 4 = .ok (.iadd, 1) := by decide +kernel
theorem d_22_5 : decode (mth 22).2.1 5 = .ok (.iload_n 2, 1) := by decide +kernel
theorem d_22_6 : decode (mth 22).2.1 6 = .ok (.bipush 9, 2) := by decide +kernel
theorem d_22_8 : decode (mth 22).2.1 8 = .ok (.idiv, 1) := by decide +kernel
theorem d_22_9 : decode (mth 22).2.1 9 = .ok (.isub, 1) := by decide +kernel
theorem d_22_10 : decode (mth 22).2.1 10 = .ok (.invokestatic 9, 3) := by decide +kernel
theorem d_22_13 : decode (mth 22).2.1 13 = .ok (.istore 4, 2) := by decide +kernel
theorem d_22_15 : decode (mth 22).2.1 15 = .ok (.iload_n 0, 1) := by decide +kernel
theorem d_22_16 : decode (mth 22).2.1 16 = .ok (.tableswitch 63 1 5 #[36, 39, 44, 51, 56], 36) := by decide +kernel
theorem d_22_52 : decode (mth 22).2.1 52 = .ok (.bipush 9, 2) := by decide +kernel
theorem d_22_54 : decode (mth 22).2.1 54 = .ok (.ireturn, 1) := by decide +kernel
theorem d_22_55 : decode (mth 22).2.1 55 = .ok (.iload 4, 2) := by decide +kernel
theorem d_22_57 : decode (mth 22).2.1 57 = .ok (.iload_n 1, 1) := by decide +kernel
theorem d_22_58 : decode (mth 22).2.1 58 = .ok (.iadd, 1) := by decide +kernel
theorem d_22_59 : decode (mth 22).2.1 59 = .ok (.ireturn, 1) := by decide +kernel
theorem d_22_60 : decode (mth 22).2.1 60 = .ok (.iconst 2, 1) := by decide +kernel
theorem d_22_61 : decode (mth 22).2.1 61 = .ok (.iload 4, 2) := by decide +kernel
theorem d_22_63 : decode (mth 22).2.1 63 = .ok (.iload_n 1, 1) := by decide +kernel
theorem d_22_64 : decode (mth 22).2.1 64 = .ok (.iadd, 1) := by decide +kernel
theorem d_22_65 : decode (mth 22).2.1 65 = .ok (.imul, 1) := by decide +kernel
theorem d_22_66 : decode (mth 22).2.1 66 = .ok (.ireturn, 1) := by decide +kernel
theorem d_22_67 : decode (mth 22).2.1 67 = .ok (.iload 4, 2) := by decide +kernel
theorem d_22_69 : decode (mth 22).2.1 69 = .ok (.iconst 2, 1) := by decide +kernel
theorem d_22_70 : decode (mth 22).2.1 70 = .ok (.idiv, 1) := by decide +kernel
theorem d_22_71 : decode (mth 22).2.1 71 = .ok (.ireturn, 1) := by decide +kernel
theorem d_22_72 : decode (mth 22).2.1 72 = .ok (.iload 4, 2) := by decide +kernel
theorem d_22_74 : decode (mth 22).2.1 74 = .ok (.iconst 2, 1) := by decide +kernel
theorem d_22_75 : decode (mth 22).2.1 75 = .ok (.idiv, 1) := by decide +kernel
theorem d_22_76 : decode (mth 22).2.1 76 = .ok (.iload_n 3, 1) := by decide +kernel
theorem d_22_77 : decode (mth 22).2.1 77 = .ok (.iadd, 1) := by decide +kernel
theorem d_22_78 : decode (mth 22).2.1 78 = .ok (.ireturn, 1) := by decide +kernel
theorem d_22_79 : decode (mth 22).2.1 79 = .ok (.iload 4, 2) := by decide +kernel
theorem d_22_81 : decode (mth 22).2.1 81 = .ok (.ireturn, 1) := by decide +kernel
/-! 26 PlayedTruth$Kind.isAs(II)Z -/
theorem d_26_0 : decode (mth 26).2.1 0 = .ok (.iload_n 0, 1) := by decide +kernel
theorem d_26_1 : decode (mth 26).2.1 1 = .ok (.iload_n 1, 1) := by decide +kernel
theorem d_26_2 : decode (mth 26).2.1 2 = .ok (.if_icmp .eq 7, 3) := by decide +kernel
theorem d_26_5 : decode (mth 26).2.1 5 = .ok (.iload_n 1, 1) := by decide +kernel
theorem d_26_6 : decode (mth 26).2.1 6 = .ok (.ifCond .ne 5, 3) := by decide +kernel
theorem d_26_9 : decode (mth 26).2.1 9 = .ok (.iconst 1, 1) := by decide +kernel
theorem d_26_10 : decode (mth 26).2.1 10 = .ok (.ireturn, 1) := by decide +kernel
theorem d_26_11 : decode (mth 26).2.1 11 = .ok (.iload_n 0, 1) := by decide +kernel
theorem d_26_12 : decode (mth 26).2.1 12 = .ok (.iconst 3, 1) := by decide +kernel
theorem d_26_13 : decode (mth 26).2.1 13 = .ok (.if_icmp .ne 8, 3) := by decide +kernel
theorem d_26_16 : decode (mth 26).2.1 16 = .ok (.iload_n 1, 1) := by decide +kernel
theorem d_26_17 : decode (mth 26).2.1 17 = .ok (.iconst 2, 1) := by decide +kernel
theorem d_26_18 : decode (mth 26).2.1 18 = .ok (.if_icmp .eq 13, 3) := by decide +kernel
theorem d_26_21 : decode (mth 26).2.1 21 = .ok (.iload_n 0, 1) := by decide +kernel
theorem d_26_22 : decode (mth 26).2.1 22 = .ok (.iconst 5, 1) := by decide +kernel
theorem d_26_23 : decode (mth 26).2.1 23 = .ok (.if_icmp .ne 12, 3) := by decide +kernel
theorem d_26_26 : decode (mth 26).2.1 26 = .ok (.iload_n 1, 1) := by decide +kernel
theorem d_26_27 : decode (mth 26).2.1 27 = .ok (.iconst 4, 1) := by decide +kernel
theorem d_26_28 : decode (mth 26).2.1 28 = .ok (.if_icmp .ne 7, 3) := by decide +kernel
theorem d_26_31 : decode (mth 26).2.1 31 = .ok (.iconst 1, 1) := by decide +kernel
theorem d_26_32 : decode (mth 26).2.1 32 = .ok (.goto 4, 3) := by decide +kernel
theorem d_26_35 : decode (mth 26).2.1 35 = .ok (.iconst 0, 1) := by decide +kernel
theorem d_26_36 : decode (mth 26).2.1 36 = .ok (.ireturn, 1) := by decide +kernel
/-! 15 PlayedTruth$Moment.isSettled(I)Z -/
theorem d_15_0 : decode (mth 15).2.1 0 = .ok (.aload_n 0, 1) := by decide +kernel
theorem d_15_1 : decode (mth 15).2.1 1 = .ok (.getfield 18, 3) := by decide +kernel
theorem d_15_4 : decode (mth 15).2.1 4 = .ok (.iload_n 1, 1) := by decide +kernel
theorem d_15_5 : decode (mth 15).2.1 5 = .ok (.ishr, 1) := by decide +kernel
theorem d_15_6 : decode (mth 15).2.1 6 = .ok (.iconst 1, 1) := by decide +kernel
theorem d_15_7 : decode (mth 15).2.1 7 = .ok (.iand, 1) := by decide +kernel
theorem d_15_8 : decode (mth 15).2.1 8 = .ok (.iconst 1, 1) := by decide +kernel
theorem d_15_9 : decode (mth 15).2.1 9 = .ok (.if_icmp .ne 7, 3) := by decide +kernel
theorem d_15_12 : decode (mth 15).2.1 12 = .ok (.iconst 1, 1) := by decide +kernel
theorem d_15_13 : decode (mth 15).2.1 13 = .ok (.goto 4, 3) := by decide +kernel
theorem d_15_16 : decode (mth 15).2.1 16 = .ok (.iconst 0, 1) := by decide +kernel
theorem d_15_17 : decode (mth 15).2.1 17 = .ok (.ireturn, 1) := by decide +kernel
/-! 88 PlayedTruth$Moment.copyFrom(LPlayedTruth$Moment;)V -/
theorem d_88_0 : decode (mth 88).2.1 0 = .ok (.aload_n 1, 1) := by decide +kernel
theorem d_88_1 : decode (mth 88).2.1 1 = .ok (.getfield 9, 3) := by decide +kernel
theorem d_88_4 : decode (mth 88).2.1 4 = .ok (.iconst 0, 1) := by decide +kernel
theorem d_88_5 : decode (mth 88).2.1 5 = .ok (.aload_n 0, 1) := by decide +kernel
theorem d_88_6 : decode (mth 88).2.1 6 = .ok (.getfield 9, 3) := by decide +kernel
theorem d_88_9 : decode (mth 88).2.1 9 = .ok (.iconst 0, 1) := by decide +kernel
theorem d_88_10 : decode (mth 88).2.1 10 = .ok (.bipush 6, 2) := by decide +kernel
theorem d_88_12 : decode (mth 88).2.1 12 = .ok (.invokestatic 31, 3) := by decide +kernel
theorem d_88_15 : decode (mth 88).2.1 15 = .ok (.aload_n 1, 1) := by decide +kernel
theorem d_88_16 : decode (mth 88).2.1 16 = .ok (.getfield 15, 3) := by decide +kernel
theorem d_88_19 : decode (mth 88).2.1 19 = .ok (.iconst 0, 1) := by decide +kernel
theorem d_88_20 : decode (mth 88).2.1 20 = .ok (.aload_n 0, 1) := by decide +kernel
theorem d_88_21 : decode (mth 88).2.1 21 = .ok (.getfield 15, 3) := by decide +kernel
theorem d_88_24 : decode (mth 88).2.1 24 = .ok (.iconst 0, 1) := by decide +kernel
theorem d_88_25 : decode (mth 88).2.1 25 = .ok (.bipush 6, 2) := by decide +kernel
theorem d_88_27 : decode (mth 88).2.1 27 = .ok (.invokestatic 31, 3) := by decide +kernel
theorem d_88_30 : decode (mth 88).2.1 30 = .ok (.aload_n 0, 1) := by decide +kernel
theorem d_88_31 : decode (mth 88).2.1 31 = .ok (.aload_n 1, 1) := by decide +kernel
theorem d_88_32 : decode (mth 88).2.1 32 = .ok (.getfield 18, 3) := by decide +kernel
theorem d_88_35 : decode (mth 88).2.1 35 = .ok (.putfield 18, 3) := by decide +kernel
theorem d_88_38 : decode (mth 88).2.1 38 = .ok (.aload_n 0, 1) := by decide +kernel
theorem d_88_39 : decode (mth 88).2.1 39 = .ok (.aload_n 1, 1) := by decide +kernel
theorem d_88_40 : decode (mth 88).2.1 40 = .ok (.getfield 22, 3) := by decide +kernel
theorem d_88_43 : decode (mth 88).2.1 43 = .ok (.putfield 22, 3) := by decide +kernel
theorem d_88_46 : decode (mth 88).2.1 46 = .ok (.aload_n 0, 1) := by decide +kernel
theorem d_88_47 : decode (mth 88).2.1 47 = .ok (.aload_n 1, 1) := by decide +kernel
theorem d_88_48 : decode (mth 88).2.1 48 = .ok (.getfield 25, 3) := by decide +kernel
theorem d_88_51 : decode (mth 88).2.1 51 = .ok (.putfield 25, 3) := by decide +kernel
theorem d_88_54 : decode (mth 88).2.1 54 = .ok (.aload_n 0, 1) := by decide +kernel
theorem d_88_55 : decode (mth 88).2.1 55 = .ok (.aload_n 1, 1) := by decide +kernel
theorem d_88_56 : decode (mth 88).2.1 56 = .ok (.getfield 28, 3) := by decide +kernel
theorem d_88_59 : decode (mth 88).2.1 59 = .ok (.putfield 28, 3) := by decide +kernel
theorem d_88_62 : decode (mth 88).2.1 62 = .ok (.return_, 1) := by decide +kernel
