/-! 86 PlayedTruth$Ahead.worthOfRest(I)I -/
theorem d_86_0 : decode (mth 86).2.1 0 = .ok (.aload_n 0, 1) := by decide +kernel
theorem d_86_1 : decode (mth 86).2.1 1 = .ok (.invokevirtual 59, 3) := by decide +kernel
theorem d_86_4 : decode (mth 86).2.1 4 = .ok (.astore_n 2, 1) := by decide +kernel
theorem d_86_5 : decode (mth 86).2.1 5 = .ok (.iconst 0, 1) := by decide +kernel
theorem d_86_6 : decode (mth 86).2.1 6 = .ok (.istore_n 3, 1) := by decide +kernel
theorem d_86_7 : decode (mth 86).2.1 7 = .ok (.iload_n 3, 1) := by decide +kernel
theorem d_86_8 : decode (mth 86).2.1 8 = .ok (.iload_n 1, 1) := by decide +kernel
theorem d_86_9 : decode (mth 86).2.1 9 = .ok (.if_icmp .ge 37, 3) := by decide +kernel
theorem d_86_12 : decode (mth 86).2.1 12 = .ok (.aload_n 0, 1) := by decide +kernel
theorem d_86_13 : decode (mth 86).2.1 13 = .ok (.getfield 46, 3) := by decide +kernel
theorem d_86_16 : decode (mth 86).2.1 16 = .ok (.aload_n 2, 1) := by decide +kernel
theorem d_86_17 : decode (mth 86).2.1 17 = .ok (.invokevirtual 63, 3) := by decide +kernel
theorem d_86_20 : decode (mth 86).2.1 20 = .ok (.ifCond .ne 26, 3) := by decide +kernel
theorem d_86_23 : decode (mth 86).2.1 23 = .ok (.aload_n 0, 1) := by decide +kernel
theorem d_86_24 : decode (mth 86).2.1 24 = .ok (.getfield 46, 3) := by decide +kernel
theorem d_86_27 : decode (mth 86).2.1 27 = .ok (.aload_n 2, 1) := by decide +kernel
theorem d_86_28 : decode (mth 86).2.1 28 = .ok (.aload_n 0, 1) := by decide +kernel
theorem d_86_29 : decode (mth 86).2.1 29 = .ok (.getfield 46, 3) := by decide +kernel
theorem d_86_32 : decode (mth 86).2.1 32 = .ok (.aload_n 2, 1) := by decide +kernel
theorem d_86_33 : decode (mth 86).2.1 33 = .ok (.invokevirtual 69, 3) := by decide +kernel
theorem d_86_36 : decode (mth 86).2.1 36 = .ok (.invokevirtual 73, 3) := by decide +kernel
theorem d_86_39 : decode (mth 86).2.1 39 = .ok (.pop, 1) := by decide +kernel
theorem d_86_40 : decode (mth 86).2.1 40 = .ok (.iinc 3 1, 3) := by decide +kernel
theorem d_86_43 : decode (mth 86).2.1 43 = .ok (.goto (-36), 3) := by decide +kernel
theorem d_86_46 : decode (mth 86).2.1 46 = .ok (.aload_n 2, 1) := by decide +kernel
theorem d_86_47 : decode (mth 86).2.1 47 = .ok (.getfield 77, 3) := by decide +kernel
theorem d_86_50 : decode (mth 86).2.1 50 = .ok (.aload_n 0, 1) := by decide +kernel
theorem d_86_51 : decode (mth 86).2.1 51 = .ok (.getfield 50, 3) := by decide +kernel
theorem d_86_54 : decode (mth 86).2.1 54 = .ok (.getfield 77, 3) := by decide +kernel
theorem d_86_57 : decode (mth 86).2.1 57 = .ok (.isub, 1) := by decide +kernel
theorem d_86_58 : decode (mth 86).2.1 58 = .ok (.ireturn, 1) := by decide +kernel
/-! 87 PlayedTruth$Ahead.fromNow()LPlayedTruth$Moment; -/
theorem d_87_0 : decode (mth 87).2.1 0 = .ok (.aload_n 0, 1) := by decide +kernel
theorem d_87_1 : decode (mth 87).2.1 1 = .ok (.getfield 11, 3) := by decide +kernel
theorem d_87_4 : decode (mth 87).2.1 4 = .ok (.iconst 0, 1) := by decide +kernel
theorem d_87_5 : decode (mth 87).2.1 5 = .ok (.aaload, 1) := by decide +kernel
theorem d_87_6 : decode (mth 87).2.1 6 = .ok (.aload_n 0, 1) := by decide +kernel
theorem d_87_7 : decode (mth 87).2.1 7 = .ok (.getfield 50, 3) := by decide +kernel
theorem d_87_10 : decode (mth 87).2.1 10 = .ok (.invokevirtual 55, 3) := by decide +kernel
theorem d_87_13 : decode (mth 87).2.1 13 = .ok (.aload_n 0, 1) := by decide +kernel
theorem d_87_14 : decode (mth 87).2.1 14 = .ok (.getfield 11, 3) := by decide +kernel
theorem d_87_17 : decode (mth 87).2.1 17 = .ok (.iconst 0, 1) := by decide +kernel
theorem d_87_18 : decode (mth 87).2.1 18 = .ok (.aaload, 1) := by decide +kernel
theorem d_87_19 : decode (mth 87).2.1 19 = .ok (.areturn, 1) := by decide +kernel
/-! 90 PlayedTruth$Ahead.settlingNight(I)I -/
theorem d_90_0 : decode (mth 90).2.1 0 = .ok (.aload_n 0, 1) := by decide +kernel
theorem d_90_1 : decode (mth 90).2.1 1 = .ok (.invokevirtual 59, 3) := by decide +kernel
theorem d_90_4 : decode (mth 90).2.1 4 = .ok (.astore_n 2, 1) := by decide +kernel
theorem d_90_5 : decode (mth 90).2.1 5 = .ok (.aload_n 2, 1) := by decide +kernel
theorem d_90_6 : decode (mth 90).2.1 6 = .ok (.iload_n 1, 1) := by decide +kernel
theorem d_90_7 : decode (mth 90).2.1 7 = .ok (.invokevirtual 80, 3) := by decide +kernel
theorem d_90_10 : decode (mth 90).2.1 10 = .ok (.ifCond .eq 6, 3) := by decide +kernel
theorem d_90_13 : decode (mth 90).2.1 13 = .ok (.bipush (-3), 2) := by decide +kernel
theorem d_90_15 : decode (mth 90).2.1 15 = .ok (.ireturn, 1) := by decide +kernel
theorem d_90_16 : decode (mth 90).2.1 16 = .ok (.iconst 0, 1) := by decide +kernel
theorem d_90_17 : decode (mth 90).2.1 17 = .ok (.istore_n 3, 1) := by decide +kernel
theorem d_90_18 : decode (mth 90).2.1 18 = .ok (.iload_n 3, 1) := by decide +kernel
theorem d_90_19 : decode (mth 90).2.1 19 = .ok (.bipush 16, 2) := by decide +kernel
theorem d_90_21 : decode (mth 90).2.1 21 = .ok (.if_icmp .ge 52, 3) := by decide +kernel
theorem d_90_24 : decode (mth 90).2.1 24 = .ok (.aload_n 0, 1) := by decide +kernel
theorem d_90_25 : decode (mth 90).2.1 25 = .ok (.getfield 46, 3) := by decide +kernel
theorem d_90_28 : decode (mth 90).2.1 28 = .ok (.aload_n 2, 1) := by decide +kernel
theorem d_90_29 : decode (mth 90).2.1 29 = .ok (.invokevirtual 63, 3) := by decide +kernel
theorem d_90_32 : decode (mth 90).2.1 32 = .ok (.ifCond .ne 41, 3) := by decide +kernel
theorem d_90_35 : decode (mth 90).2.1 35 = .ok (.aload_n 0, 1) := by decide +kernel
theorem d_90_36 : decode (mth 90).2.1 36 = .ok (.getfield 46, 3) := by decide +kernel
theorem d_90_39 : decode (mth 90).2.1 39 = .ok (.aload_n 2, 1) := by decide +kernel
theorem d_90_40 : decode (mth 90).2.1 40 = .ok (.aload_n 0, 1) := by decide +kernel
theorem d_90_41 : decode (mth 90).2.1 41 = .ok (.getfield 46, 3) := by decide +kernel
theorem d_90_44 : decode (mth 90).2.1 44 = .ok (.aload_n 2, 1) := by decide +kernel
theorem d_90_45 : decode (mth 90).2.1 45 = .ok (.invokevirtual 69, 3) := by decide +kernel
theorem d_90_48 : decode (mth 90).2.1 48 = .ok (.invokevirtual 73, 3) := by decide +kernel
theorem d_90_51 : decode (mth 90).2.1 51 = .ok (.pop, 1) := by decide +kernel
theorem d_90_52 : decode (mth 90).2.1 52 = .ok (.aload_n 2, 1) := by decide +kernel
theorem d_90_53 : decode (mth 90).2.1 53 = .ok (.iload_n 1, 1) := by decide +kernel
theorem d_90_54 : decode (mth 90).2.1 54 = .ok (.invokevirtual 80, 3) := by decide +kernel
theorem d_90_57 : decode (mth 90).2.1 57 = .ok (.ifCond .eq 10, 3) := by decide +kernel
theorem d_90_60 : decode (mth 90).2.1 60 = .ok (.aload_n 2, 1) := by decide +kernel
theorem d_90_61 : decode (mth 90).2.1 61 = .ok (.getfield 84, 3) := by decide +kernel
theorem d_90_64 : decode (mth 90).2.1 64 = .ok (.iconst 1, 1) := by decide +kernel
theorem d_90_65 : decode (mth 90).2.1 65 = .ok (.isub, 1) := by decide +kernel
theorem d_90_66 : decode (mth 90).2.1 66 = .ok (.ireturn, 1) := by decide +kernel
theorem d_90_67 : decode (mth 90).2.1 67 = .ok (.iinc 3 1, 3) := by decide +kernel
theorem d_90_70 : decode (mth 90).2.1 70 = .ok (.goto (-52), 3) := by decide +kernel
theorem d_90_73 : decode (mth 90).2.1 73 = .ok (.bipush (-3), 2) := by decide +kernel
theorem d_90_75 : decode (mth 90).2.1 75 = .ok (.ireturn, 1) := by decide +kernel
/-! 95 PlayedTruth$Ahead.trueNight(I)I -/
theorem d_95_0 : decode (mth 95).2.1 0 = .ok (.aload_n 0, 1) := by decide +kernel
theorem d_95_1 : decode (mth 95).2.1 1 = .ok (.invokevirtual 59, 3) := by decide +kernel
theorem d_95_4 : decode (mth 95).2.1 4 = .ok (.astore_n 2, 1) := by decide +kernel
theorem d_95_5 : decode (mth 95).2.1 5 = .ok (.iconst 0, 1) := by decide +kernel
theorem d_95_6 : decode (mth 95).2.1 6 = .ok (.istore_n 3, 1) := by decide +kernel
theorem d_95_7 : decode (mth 95).2.1 7 = .ok (.iload_n 3, 1) := by decide +kernel
theorem d_95_8 : decode (mth 95).2.1 8 = .ok (.bipush 16, 2) := by decide +kernel
theorem d_95_10 : decode (mth 95).2.1 10 = .ok (.if_icmp .ge 49, 3) := by decide +kernel
theorem d_95_13 : decode (mth 95).2.1 13 = .ok (.aload_n 0, 1) := by decide +kernel
theorem d_95_14 : decode (mth 95).2.1 14 = .ok (.getfield 46, 3) := by decide +kernel
theorem d_95_17 : decode (mth 95).2.1 17 = .ok (.aload_n 2, 1) := by decide +kernel
theorem d_95_18 : decode (mth 95).2.1 18 = .ok (.invokevirtual 87, 3) := by decide +kernel
theorem d_95_21 : decode (mth 95).2.1 21 = .ok (.iload_n 1, 1) := by decide +kernel
theorem d_95_22 : decode (mth 95).2.1 22 = .ok (.if_icmp .ge 37, 3) := by decide +kernel
theorem d_95_25 : decode (mth 95).2.1 25 = .ok (.aload_n 0, 1) := by decide +kernel
theorem d_95_26 : decode (mth 95).2.1 26 = .ok (.getfield 46, 3) := by decide +kernel
theorem d_95_29 : decode (mth 95).2.1 29 = .ok (.aload_n 2, 1) := by decide +kernel
theorem d_95_30 : decode (mth 95).2.1 30 = .ok (.invokevirtual 63, 3) := by decide +kernel
theorem d_95_33 : decode (mth 95).2.1 33 = .ok (.ifCond .ne 26, 3) := by decide +kernel
theorem d_95_36 : decode (mth 95).2.1 36 = .ok (.aload_n 0, 1) := by decide +kernel
theorem d_95_37 : decode (mth 95).2.1 37 = .ok (.getfield 46, 3) := by decide +kernel
theorem d_95_40 : decode (mth 95).2.1 40 = .ok (.aload_n 2, 1) := by decide +kernel
theorem d_95_41 : decode (mth 95).2.1 41 = .ok (.aload_n 0, 1) := by decide +kernel
theorem d_95_42 : decode (mth 95).2.1 42 = .ok (.getfield 46, 3) := by decide +kernel
theorem d_95_45 : decode (mth 95).2.1 45 = .ok (.aload_n 2, 1) := by decide +kernel
theorem d_95_46 : decode (mth 95).2.1 46 = .ok (.invokevirtual 69, 3) := by decide +kernel
theorem d_95_49 : decode (mth 95).2.1 49 = .ok (.invokevirtual 73, 3) := by decide +kernel
theorem d_95_52 : decode (mth 95).2.1 52 = .ok (.pop, 1) := by decide +kernel
theorem d_95_53 : decode (mth 95).2.1 53 = .ok (.iinc 3 1, 3) := by decide +kernel
theorem d_95_56 : decode (mth 95).2.1 56 = .ok (.goto (-49), 3) := by decide +kernel
theorem d_95_59 : decode (mth 95).2.1 59 = .ok (.aload_n 0, 1) := by decide +kernel
theorem d_95_60 : decode (mth 95).2.1 60 = .ok (.getfield 46, 3) := by decide +kernel
theorem d_95_63 : decode (mth 95).2.1 63 = .ok (.aload_n 2, 1) := by decide +kernel
theorem d_95_64 : decode (mth 95).2.1 64 = .ok (.invokevirtual 87, 3) := by decide +kernel
theorem d_95_67 : decode (mth 95).2.1 67 = .ok (.iload_n 1, 1) := by decide +kernel
theorem d_95_68 : decode (mth 95).2.1 68 = .ok (.if_icmp .lt 10, 3) := by decide +kernel
theorem d_95_71 : decode (mth 95).2.1 71 = .ok (.aload_n 2, 1) := by decide +kernel
theorem d_95_72 : decode (mth 95).2.1 72 = .ok (.getfield 84, 3) := by decide +kernel
theorem d_95_75 : decode (mth 95).2.1 75 = .ok (.goto 5, 3) := by decide +kernel
theorem d_95_78 : decode (mth 95).2.1 78 = .ok (.bipush (-3), 2) := by decide +kernel
theorem d_95_80 : decode (mth 95).2.1 80 = .ok (.ireturn, 1) := by decide +kernel
/-! 109 PlayedTruth$Ahead.weighPlans(II)V -/
theorem d_109_0 : decode (mth 109).2.1 0 = .ok (.aload_n 0, 1) := by decide +kernel
theorem d_109_1 : decode (mth 109).2.1 1 = .ok (.aload_n 0, 1) := by decide +kernel
theorem d_109_2 : decode (mth 109).2.1 2 = .ok (.iload_n 1, 1) := by decide +kernel
theorem d_109_3 : decode (mth 109).2.1 3 = .ok (.invokevirtual 121, 3) := by decide +kernel
theorem d_109_6 : decode (mth 109).2.1 6 = .ok (.putfield 25, 3) := by decide +kernel
theorem d_109_9 : decode (mth 109).2.1 9 = .ok (.aload_n 0, 1) := by decide +kernel
theorem d_109_10 : decode (mth 109).2.1 10 = .ok (.iload_n 2, 1) := by decide +kernel
theorem d_109_11 : decode (mth 109).2.1 11 = .ok (.putfield 21, 3) := by decide +kernel
theorem d_109_14 : decode (mth 109).2.1 14 = .ok (.aload_n 0, 1) := by decide +kernel
theorem d_109_15 : decode (mth 109).2.1 15 = .ok (.iconst (-1), 1) := by decide +kernel
theorem d_109_16 : decode (mth 109).2.1 16 = .ok (.putfield 28, 3) := by decide +kernel
theorem d_109_19 : decode (mth 109).2.1 19 = .ok (.aload_n 0, 1) := by decide +kernel
theorem d_109_20 : decode (mth 109).2.1 20 = .ok (.iconst 0, 1) := by decide +kernel
theorem d_109_21 : decode (mth 109).2.1 21 = .ok (.putfield 31, 3) := by decide +kernel
theorem d_109_24 : decode (mth 109).2.1 24 = .ok (.aload_n 0, 1) := by decide +kernel
theorem d_109_25 : decode (mth 109).2.1 25 = .ok (.bipush (-3), 2) := by decide +kernel
theorem d_109_27 : decode (mth 109).2.1 27 = .ok (.putfield 37, 3) := by decide +kernel
theorem d_109_30 : decode (mth 109).2.1 30 = .ok (.aload_n 0, 1) := by decide +kernel
theorem d_109_31 : decode (mth 109).2.1 31 = .ok (.iconst 0, 1) := by decide +kernel
theorem d_109_32 : decode (mth 109).2.1 32 = .ok (.putfield 40, 3) := by decide +kernel
theorem d_109_35 : decode (mth 109).2.1 35 = .ok (.aload_n 0, 1) := by decide +kernel
theorem d_109_36 : decode (mth 109).2.1 36 = .ok (.invokevirtual 59, 3) := by decide +kernel
theorem d_109_39 : decode (mth 109).2.1 39 = .ok (.pop, 1) := by decide +kernel
theorem d_109_40 : decode (mth 109).2.1 40 = .ok (.aload_n 0, 1) := by decide +kernel
theorem d_109_41 : decode (mth 109).2.1 41 = .ok (.iconst 0, 1) := by decide +kernel
theorem d_109_42 : decode (mth 109).2.1 42 = .ok (.iconst 0, 1) := by decide +kernel
theorem d_109_43 : decode (mth 109).2.1 43 = .ok (.invokevirtual 125, 3) := by decide +kernel
theorem d_109_46 : decode (mth 109).2.1 46 = .ok (.return_, 1) := by decide +kernel
/-! 110 PlayedTruth$Ahead.nightsOf(I)I -/
theorem d_110_0 : decode (mth 110).2.1 0 = .ok (.iconst 0, 1) := by decide +kernel
theorem d_110_1 : decode (mth 110).2.1 1 = .ok (.iload_n 1, 1) := by decide +kernel
theorem d_110_2 : decode (mth 110).2.1 2 = .ok (.aload_n 0, 1) := by decide +kernel
theorem d_110_3 : decode (mth 110).2.1 3 = .ok (.getfield 46, 3) := by decide +kernel
theorem d_110_6 : decode (mth 110).2.1 6 = .ok (.getfield 109, 3) := by decide +kernel
theorem d_110_9 : decode (mth 110).2.1 9 = .ok (.aload_n 0, 1) := by decide +kernel
theorem d_110_10 : decode (mth 110).2.1 10 = .ok (.getfield 50, 3) := by decide +kernel
theorem d_110_13 : decode (mth 110).2.1 13 = .ok (.getfield 84, 3) := by decide +kernel
theorem d_110_16 : decode (mth 110).2.1 16 = .ok (.isub, 1) := by decide +kernel
theorem d_110_17 : decode (mth 110).2.1 17 = .ok (.invokestatic 112, 3) := by decide +kernel
theorem d_110_20 : decode (mth 110).2.1 20 = .ok (.invokestatic 118, 3) := by decide +kernel
theorem d_110_23 : decode (mth 110).2.1 23 = .ok (.ireturn, 1) := by decide +kernel
/-! 111 PlayedTruth$Ahead.goThroughPlans(II)V -/
theorem d_111_0 : decode (mth 111).2.1 0 = .ok (.iload_n 1, 1) := by decide +kernel
theorem d_111_1 : decode (mth 111).2.1 1 = .ok (.aload_n 0, 1) := by decide +kernel
theorem d_111_2 : decode (mth 111).2.1 2 = .ok (.getfield 25, 3) := by decide +kernel
theorem d_111_5 : decode (mth 111).2.1 5 = .ok (.if_icmp .ge 8, 3) := by decide +kernel
theorem d_111_8 : decode (mth 111).2.1 8 = .ok (.iload_n 1, 1) := by decide +kernel
theorem d_111_9 : decode (mth 111).2.1 9 = .ok (.iconst 4, 1) := by decide +kernel
theorem d_111_10 : decode (mth 111).2.1 10 = .ok (.if_icmp .lt 15, 3) := by decide +kernel
theorem d_111_13 : decode (mth 111).2.1 13 = .ok (.aload_n 0, 1) := by decide +kernel
theorem d_111_14 : decode (mth 111).2.1 14 = .ok (.aload_n 0, 1) := by decide +kernel
theorem d_111_15 : decode (mth 111).2.1 15 = .ok (.getfield 11, 3) := by decide +kernel
theorem d_111_18 : decode (mth 111).2.1 18 = .ok (.iload_n 1, 1) := by decide +kernel
theorem d_111_19 : decode (mth 111).2.1 19 = .ok (.aaload, 1) := by decide +kernel
theorem d_111_20 : decode (mth 111).2.1 20 = .ok (.iload_n 2, 1) := by decide +kernel
theorem d_111_21 : decode (mth 111).2.1 21 = .ok (.invokevirtual 129, 3) := by decide +kernel
theorem d_111_24 : decode (mth 111).2.1 24 = .ok (.return_, 1) := by decide +kernel
theorem d_111_25 : decode (mth 111).2.1 25 = .ok (.aload_n 0, 1) := by decide +kernel
theorem d_111_26 : decode (mth 111).2.1 26 = .ok (.getfield 11, 3) := by decide +kernel
theorem d_111_29 : decode (mth 111).2.1 29 = .ok (.iload_n 1, 1) := by decide +kernel
theorem d_111_30 : decode (mth 111).2.1 30 = .ok (.iconst 1, 1) := by decide +kernel
theorem d_111_31 : decode (mth 111).2.1 31 = .ok (.iadd, 1) := by decide +kernel
theorem d_111_32 : decode (mth 111).2.1 32 = .ok (.aaload, 1) := by decide +kernel
theorem d_111_33 : decode (mth 111).2.1 33 = .ok (.astore_n 3, 1) := by decide +kernel
theorem d_111_34 : decode (mth 111).2.1 34 = .ok (.iconst 0, 1) := by decide +kernel
theorem d_111_35 : decode (mth 111).2.1 35 = .ok (.istore 4, 2) := by decide +kernel
theorem d_111_37 : decode (mth 111).2.1 37 = .ok (.iload 4, 2) := by decide +kernel
theorem d_111_39 : decode (mth 111).2.1 39 = .ok (.aload_n 0, 1) := by decide +kernel
theorem d_111_40 : decode (mth 111).2.1 40 = .ok (.getfield 46, 3) := by decide +kernel
theorem d_111_43 : decode (mth 111).2.1 43 = .ok (.getfield 133, 3) := by decide +kernel
theorem d_111_46 : decode (mth 111).2.1 46 = .ok (.if_icmp .gt 57, 3) := by decide +kernel
theorem d_111_49 : decode (mth 111).2.1 49 = .ok (.aload_n 3, 1) := by decide +kernel
theorem d_111_50 : decode (mth 111).2.1 50 = .ok (.aload_n 0, 1) := by decide +kernel
theorem d_111_51 : decode (mth 111).2.1 51 = .ok (.getfield 11, 3) := by decide +kernel
theorem d_111_54 : decode (mth 111).2.1 54 = .ok (.iload_n 1, 1) := by decide +kernel
theorem d_111_55 : decode (mth 111).2.1 55 = .ok (.aaload, 1) := by decide +kernel
theorem d_111_56 : decode (mth 111).2.1 56 = .ok (.invokevirtual 55, 3) := by decide +kernel
theorem d_111_59 : decode (mth 111).2.1 59 = .ok (.aload_n 0, 1) := by decide +kernel
theorem d_111_60 : decode (mth 111).2.1 60 = .ok (.getfield 46, 3) := by decide +kernel
theorem d_111_63 : decode (mth 111).2.1 63 = .ok (.aload_n 3, 1) := by decide +kernel
theorem d_111_64 : decode (mth 111).2.1 64 = .ok (.iload 4, 2) := by decide +kernel
theorem d_111_66 : decode (mth 111).2.1 66 = .ok (.invokevirtual 73, 3) := by decide +kernel
theorem d_111_69 : decode (mth 111).2.1 69 = .ok (.pop, 1) := by decide +kernel
theorem d_111_70 : decode (mth 111).2.1 70 = .ok (.aload_n 0, 1) := by decide +kernel
theorem d_111_71 : decode (mth 111).2.1 71 = .ok (.getfield 17, 3) := by decide +kernel
theorem d_111_74 : decode (mth 111).2.1 74 = .ok (.iload_n 1, 1) := by decide +kernel
theorem d_111_75 : decode (mth 111).2.1 75 = .ok (.iload 4, 2) := by decide +kernel
theorem d_111_77 : decode (mth 111).2.1 77 = .ok (.iastore, 1) := by decide +kernel
theorem d_111_78 : decode (mth 111).2.1 78 = .ok (.aload_n 0, 1) := by decide +kernel
theorem d_111_79 : decode (mth 111).2.1 79 = .ok (.iload_n 1, 1) := by decide +kernel
theorem d_111_80 : decode (mth 111).2.1 80 = .ok (.iconst 1, 1) := by decide +kernel
theorem d_111_81 : decode (mth 111).2.1 81 = .ok (.iadd, 1) := by decide +kernel
theorem d_111_82 : decode (mth 111).2.1 82 = .ok (.iload 4, 2) := by decide +kernel
theorem d_111_84 : decode (mth 111).2.1 84 = .ok (.ifCond .ne 7, 3) := by decide +kernel
theorem d_111_87 : decode (mth 111).2.1 87 = .ok (.iload_n 2, 1) := by decide +kernel
theorem d_111_88 : decode (mth 111).2.1 88 = .ok (.goto 6, 3) := by decide +kernel
theorem d_111_91 : decode (mth 111).2.1 91 = .ok (.iload_n 2, 1) := by decide +kernel
theorem d_111_92 : decode (mth 111).2.1 92 = .ok (.iconst 1, 1) := by decide +kernel
theorem d_111_93 : decode (mth 111).2.1 93 = .ok (.iadd, 1) := by decide +kernel
theorem d_111_94 : decode (mth 111).2.1 94 = .ok (.invokevirtual 125, 3) := by decide +kernel
theorem d_111_97 : decode (mth 111).2.1 97 = .ok (.iinc 4 1, 3) := by decide +kernel
theorem d_111_100 : decode (mth 111).2.1 100 = .ok (.goto (-63), 3) := by decide +kernel
theorem d_111_103 : decode (mth 111).2.1 103 = .ok (.return_, 1) := by decide +kernel
/-! 112 PlayedTruth$Ahead.weighPlan(LPlayedTruth$Moment;I)V -/
theorem d_112_0 : decode (mth 112).2.1 0 = .ok (.aload_n 1, 1) := by decide +kernel
theorem d_112_1 : decode (mth 112).2.1 1 = .ok (.getfield 77, 3) := by decide +kernel
theorem d_112_4 : decode (mth 112).2.1 4 = .ok (.aload_n 0, 1) := by decide +kernel
theorem d_112_5 : decode (mth 112).2.1 5 = .ok (.getfield 50, 3) := by decide +kernel
theorem d_112_8 : decode (mth 112).2.1 8 = .ok (.getfield 77, 3) := by decide +kernel
theorem d_112_11 : decode (mth 112).2.1 11 = .ok (.isub, 1) := by decide +kernel
theorem d_112_12 : decode (mth 112).2.1 12 = .ok (.istore_n 3, 1) := by decide +kernel
theorem d_112_13 : decode (mth 112).2.1 13 = .ok (.iload_n 3, 1) := by decide +kernel
theorem d_112_14 : decode (mth 112).2.1 14 = .ok (.aload_n 0, 1) := by decide +kernel
theorem d_112_15 : decode (mth 112).2.1 15 = .ok (.getfield 28, 3) := by decide +kernel
theorem d_112_18 : decode (mth 112).2.1 18 = .ok (.if_icmp .le 27, 3) := by decide +kernel
theorem d_112_21 : decode (mth 112).2.1 21 = .ok (.aload_n 0, 1) := by decide +kernel
theorem d_112_22 : decode (mth 112).2.1 22 = .ok (.iload_n 3, 1) := by decide +kernel
theorem d_112_23 : decode (mth 112).2.1 23 = .ok (.putfield 28, 3) := by decide +kernel
theorem d_112_26 : decode (mth 112).2.1 26 = .ok (.aload_n 0, 1) := by decide +kernel
theorem d_112_27 : decode (mth 112).2.1 27 = .ok (.iconst 0, 1) := by decide +kernel
theorem d_112_28 : decode (mth 112).2.1 28 = .ok (.putfield 31, 3) := by decide +kernel
theorem d_112_31 : decode (mth 112).2.1 31 = .ok (.aload_n 0, 1) := by decide +kernel
theorem d_112_32 : decode (mth 112).2.1 32 = .ok (.getfield 17, 3) := by decide +kernel
theorem d_112_35 : decode (mth 112).2.1 35 = .ok (.iconst 0, 1) := by decide +kernel
theorem d_112_36 : decode (mth 112).2.1 36 = .ok (.aload_n 0, 1) := by decide +kernel
theorem d_112_37 : decode (mth 112).2.1 37 = .ok (.getfield 34, 3) := by decide +kernel
theorem d_112_40 : decode (mth 112).2.1 40 = .ok (.iconst 0, 1) := by decide +kernel
theorem d_112_41 : decode (mth 112).2.1 41 = .ok (.iconst 4, 1) := by decide +kernel
theorem d_112_42 : decode (mth 112).2.1 42 = .ok (.invokestatic 136, 3) := by decide +kernel
theorem d_112_45 : decode (mth 112).2.1 45 = .ok (.iload_n 3, 1) := by decide +kernel
theorem d_112_46 : decode (mth 112).2.1 46 = .ok (.aload_n 0, 1) := by decide +kernel
theorem d_112_47 : decode (mth 112).2.1 47 = .ok (.getfield 28, 3) := by decide +kernel
theorem d_112_50 : decode (mth 112).2.1 50 = .ok (.if_icmp .ne 13, 3) := by decide +kernel
theorem d_112_53 : decode (mth 112).2.1 53 = .ok (.aload_n 0, 1) := by decide +kernel
theorem d_112_54 : decode (mth 112).2.1 54 = .ok (.dup, 1) := by decide +kernel
theorem d_112_55 : decode (mth 112).2.1 55 = .ok (.getfield 31, 3) := by decide +kernel
theorem d_112_58 : decode (mth 112).2.1 58 = .ok (.iconst 1, 1) := by decide +kernel
theorem d_112_59 : decode (mth 112).2.1 59 = .ok (.iadd, 1) := by decide +kernel
theorem d_112_60 : decode (mth 112).2.1 60 = .ok (.putfield 31, 3) := by decide +kernel
theorem d_112_63 : decode (mth 112).2.1 63 = .ok (.aload_n 1, 1) := by decide +kernel
theorem d_112_64 : decode (mth 112).2.1 64 = .ok (.getfield 142, 3) := by decide +kernel
theorem d_112_67 : decode (mth 112).2.1 67 = .ok (.aload_n 0, 1) := by decide +kernel
theorem d_112_68 : decode (mth 112).2.1 68 = .ok (.getfield 21, 3) := by decide +kernel
theorem d_112_71 : decode (mth 112).2.1 71 = .ok (.iand, 1) := by decide +kernel
theorem d_112_72 : decode (mth 112).2.1 72 = .ok (.aload_n 0, 1) := by decide +kernel
theorem d_112_73 : decode (mth 112).2.1 73 = .ok (.getfield 21, 3) := by decide +kernel
theorem d_112_76 : decode (mth 112).2.1 76 = .ok (.if_icmp .ne 25, 3) := by decide +kernel
theorem d_112_79 : decode (mth 112).2.1 79 = .ok (.aload_n 0, 1) := by decide +kernel
theorem d_112_80 : decode (mth 112).2.1 80 = .ok (.getfield 37, 3) := by decide +kernel
theorem d_112_83 : decode (mth 112).2.1 83 = .ok (.bipush (-3), 2) := by decide +kernel
theorem d_112_85 : decode (mth 112).2.1 85 = .ok (.if_icmp .eq 11, 3) := by decide +kernel
theorem d_112_88 : decode (mth 112).2.1 88 = .ok (.iload_n 2, 1) := by decide +kernel
theorem d_112_89 : decode (mth 112).2.1 89 = .ok (.aload_n 0, 1) := by decide +kernel
theorem d_112_90 : decode (mth 112).2.1 90 = .ok (.getfield 37, 3) := by decide +kernel
theorem d_112_93 : decode (mth 112).2.1 93 = .ok (.if_icmp .ge 8, 3) := by decide +kernel
theorem d_112_96 : decode (mth 112).2.1 96 = .ok (.aload_n 0, 1) := by decide +kernel
theorem d_112_97 : decode (mth 112).2.1 97 = .ok (.iload_n 2, 1) := by decide +kernel
theorem d_112_98 : decode (mth 112).2.1 98 = .ok (.putfield 37, 3) := by decide +kernel
theorem d_112_101 : decode (mth 112).2.1 101 = .ok (.aload_n 0, 1) := by decide +kernel
theorem d_112_102 : decode (mth 112).2.1 102 = .ok (.dup, 1) := by decide +kernel
theorem d_112_103 : decode (mth 112).2.1 103 = .ok (.getfield 40, 3) := by decide +kernel
theorem d_112_106 : decode (mth 112).2.1 106 = .ok (.aload_n 1, 1) := by decide +kernel
theorem d_112_107 : decode (mth 112).2.1 107 = .ok (.getfield 142, 3) := by decide +kernel
theorem d_112_110 : decode (mth 112).2.1 110 = .ok (.ior, 1) := by decide +kernel
theorem d_112_111 : decode (mth 112).2.1 111 = .ok (.putfield 40, 3) := by decide +kernel
theorem d_112_114 : decode (mth 112).2.1 114 = .ok (.return_, 1) := by decide +kernel
/-! 120 PlayedTruth$Ahead.playGame(I)I -/
theorem d_120_0 : decode (mth 120).2.1 0 = .ok (.aload_n 0, 1) := by decide +kernel
theorem d_120_1 : decode (mth 120).2.1 1 = .ok (.aload_n 0, 1) := by decide +kernel
theorem d_120_2 : decode (mth 120).2.1 2 = .ok (.iload_n 1, 1) := by decide +kernel
theorem d_120_3 : decode (mth 120).2.1 3 = .ok (.invokevirtual 121, 3) := by decide +kernel
theorem d_120_6 : decode (mth 120).2.1 6 = .ok (.putfield 25, 3) := by decide +kernel
theorem d_120_9 : decode (mth 120).2.1 9 = .ok (.aload_n 0, 1) := by decide +kernel
theorem d_120_10 : decode (mth 120).2.1 10 = .ok (.invokevirtual 59, 3) := by decide +kernel
theorem d_120_13 : decode (mth 120).2.1 13 = .ok (.pop, 1) := by decide +kernel
theorem d_120_14 : decode (mth 120).2.1 14 = .ok (.aload_n 0, 1) := by decide +kernel
theorem d_120_15 : decode (mth 120).2.1 15 = .ok (.iconst 0, 1) := by decide +kernel
theorem d_120_16 : decode (mth 120).2.1 16 = .ok (.invokevirtual 145, 3) := by decide +kernel
theorem d_120_19 : decode (mth 120).2.1 19 = .ok (.ireturn, 1) := by decide +kernel
/-! 121 PlayedTruth$Ahead.valueOfGame(I)I -/
theorem d_121_0 : decode (mth 121).2.1 0 = .ok (.iload_n 1, 1) := by decide +kernel
theorem d_121_1 : decode (mth 121).2.1 1 = .ok (.aload_n 0, 1) := by decide +kernel
theorem d_121_2 : decode (mth 121).2.1 2 = .ok (.getfield 25, 3) := by decide +kernel
theorem d_121_5 : decode (mth 121).2.1 5 = .ok (.if_icmp .ge 8, 3) := by decide +kernel
theorem d_121_8 : decode (mth 121).2.1 8 = .ok (.iload_n 1, 1) := by decide +kernel
theorem d_121_9 : decode (mth 121).2.1 9 = .ok (.iconst 4, 1) := by decide +kernel
theorem d_121_10 : decode (mth 121).2.1 10 = .ok (.if_icmp .lt 21, 3) := by decide +kernel
theorem d_121_13 : decode (mth 121).2.1 13 = .ok (.aload_n 0, 1) := by decide +kernel
theorem d_121_14 : decode (mth 121).2.1 14 = .ok (.getfield 11, 3) := by decide +kernel
theorem d_121_17 : decode (mth 121).2.1 17 = .ok (.iload_n 1, 1) := by decide +kernel
theorem d_121_18 : decode (mth 121).2.1 18 = .ok (.aaload, 1) := by decide +kernel
theorem d_121_19 : decode (mth 121).2.1 19 = .ok (.getfield 77, 3) := by decide +kernel
theorem d_121_22 : decode (mth 121).2.1 22 = .ok (.aload_n 0, 1) := by decide +kernel
theorem d_121_23 : decode (mth 121).2.1 23 = .ok (.getfield 50, 3) := by decide +kernel
theorem d_121_26 : decode (mth 121).2.1 26 = .ok (.getfield 77, 3) := by decide +kernel
theorem d_121_29 : decode (mth 121).2.1 29 = .ok (.isub, 1) := by decide +kernel
theorem d_121_30 : decode (mth 121).2.1 30 = .ok (.ireturn, 1) := by decide +kernel
theorem d_121_31 : decode (mth 121).2.1 31 = .ok (.iload_n 1, 1) := by decide +kernel
theorem d_121_32 : decode (mth 121).2.1 32 = .ok (.iconst 2, 1) := by decide +kernel
theorem d_121_33 : decode (mth 121).2.1 33 = .ok (.irem, 1) := by decide +kernel
theorem d_121_34 : decode (mth 121).2.1 34 = .ok (.ifCond .ne 7, 3) := by decide +kernel
theorem d_121_37 : decode (mth 121).2.1 37 = .ok (.iconst 1, 1) := by decide +kernel
theorem d_121_38 : decode (mth 121).2.1 38 = .ok (.goto 4, 3) := by decide +kernel
theorem d_121_41 : decode (mth 121).2.1 41 = .ok (.iconst 0, 1) := by decide +kernel
theorem d_121_42 : decode (mth 121).2.1 42 = .ok (.istore_n 2, 1) := by decide +kernel
theorem d_121_43 : decode (mth 121).2.1 43 = .ok (.iconst 0, 1) := by decide +kernel
theorem d_121_44 : decode (mth 121).2.1 44 = .ok (.istore_n 3, 1) := by decide +kernel
theorem d_121_45 : decode (mth 121).2.1 45 = .ok (.aload_n 0, 1) := by decide +kernel
theorem d_121_46 : decode (mth 121).2.1 46 = .ok (.getfield 11, 3) := by decide +kernel
theorem d_121_49 : decode (mth 121).2.1 49 = .ok (.iload_n 1, 1) := by decide +kernel
theorem d_121_50 : decode (mth 121).2.1 50 = .ok (.iconst 1, 1) := by decide +kernel
theorem d_121_51 : decode (mth 121).2.1 51 = .ok (.iadd, 1) := by decide +kernel
theorem d_121_52 : decode (mth 121).2.1 52 = .ok (.aaload, 1) := by decide +kernel
theorem d_121_53 : decode (mth 121).2.1 53 = .ok (.astore 4, 2) := by decide +kernel
theorem d_121_55 : decode (mth 121).2.1 55 = .ok (.iconst 0, 1) := by decide +kernel
theorem d_121_56 : decode (mth 121).2.1 56 = .ok (.istore 5, 2) := by decide +kernel
theorem d_121_58 : decode (mth 121).2.1 58 = .ok (.iload 5, 2) := by decide +kernel
theorem d_121_60 : decode (mth 121).2.1 60 = .ok (.aload_n 0, 1) := by decide +kernel
theorem d_121_61 : decode (mth 121).2.1 61 = .ok (.getfield 46, 3) := by decide +kernel
theorem d_121_64 : decode (mth 121).2.1 64 = .ok (.getfield 133, 3) := by decide +kernel
theorem d_121_67 : decode (mth 121).2.1 67 = .ok (.if_icmp .gt 78, 3) := by decide +kernel
theorem d_121_70 : decode (mth 121).2.1 70 = .ok (.aload 4, 2) := by decide +kernel
theorem d_121_72 : decode (mth 121).2.1 72 = .ok (.aload_n 0, 1) := by decide +kernel
theorem d_121_73 : decode (mth 121).2.1 73 = .ok (.getfield 11, 3) := by decide +kernel
theorem d_121_76 : decode (mth 121).2.1 76 = .ok (.iload_n 1, 1) := by decide +kernel
theorem d_121_77 : decode (mth 121).2.1 77 = .ok (.aaload, 1) := by decide +kernel
theorem d_121_78 : decode (mth 121).2.1 78 = .ok (.invokevirtual 55, 3) := by decide +kernel
theorem d_121_81 : decode (mth 121).2.1 81 = .ok (.aload_n 0, 1) := by decide +kernel
theorem d_121_82 : decode (mth 121).2.1 82 = .ok (.getfield 46, 3) := by decide +kernel
theorem d_121_85 : decode (mth 121).2.1 85 = .ok (.aload 4, 2) := by decide +kernel
theorem d_121_87 : decode (mth 121).2.1 87 = .ok (.iload 5, 2) := by decide +kernel
theorem d_121_89 : decode (mth 121).2.1 89 = .ok (.invokevirtual 73, 3) := by decide +kernel
theorem d_121_92 : decode (mth 121).2.1 92 = .ok (.pop, 1) := by decide +kernel
theorem d_121_93 : decode (mth 121).2.1 93 = .ok (.aload_n 0, 1) := by decide +kernel
theorem d_121_94 : decode (mth 121).2.1 94 = .ok (.iload_n 1, 1) := by decide +kernel
theorem d_121_95 : decode (mth 121).2.1 95 = .ok (.iconst 1, 1) := by decide +kernel
theorem d_121_96 : decode (mth 121).2.1 96 = .ok (.iadd, 1) := by decide +kernel
theorem d_121_97 : decode (mth 121).2.1 97 = .ok (.invokevirtual 145, 3) := by decide +kernel
theorem d_121_100 : decode (mth 121).2.1 100 = .ok (.istore 6, 2) := by decide +kernel
theorem d_121_102 : decode (mth 121).2.1 102 = .ok (.iload 5, 2) := by decide +kernel
theorem d_121_104 : decode (mth 121).2.1 104 = .ok (.ifCond .eq 22, 3) := by decide +kernel
theorem d_121_107 : decode (mth 121).2.1 107 = .ok (.iload_n 2, 1) := by decide +kernel
theorem d_121_108 : decode (mth 121).2.1 108 = .ok (.ifCond .eq 12, 3) := by decide +kernel
theorem d_121_111 : decode (mth 121).2.1 111 = .ok (.iload 6, 2) := by decide +kernel
theorem d_121_113 : decode (mth 121).2.1 113 = .ok (.iload_n 3, 1) := by decide +kernel
theorem d_121_114 : decode (mth 121).2.1 114 = .ok (.if_icmp .le 25, 3) := by decide +kernel
theorem d_121_117 : decode (mth 121).2.1 117 = .ok (.goto 9, 3) := by decide +kernel
theorem d_121_120 : decode (mth 121).2.1 120 = .ok (.iload 6, 2) := by decide +kernel
theorem d_121_122 : decode (mth 121).2.1 122 = .ok (.iload_n 3, 1) := by decide +kernel
theorem d_121_123 : decode (mth 121).2.1 123 = .ok (.if_icmp .ge 16, 3) := by decide +kernel
theorem d_121_126 : decode (mth 121).2.1 126 = .ok (.iload 6, 2) := by decide +kernel
theorem d_121_128 : decode (mth 121).2.1 128 = .ok (.istore_n 3, 1) := by decide +kernel
theorem d_121_129 : decode (mth 121).2.1 129 = .ok (.iload_n 1, 1) := by decide +kernel
theorem d_121_130 : decode (mth 121).2.1 130 = .ok (.ifCond .ne 9, 3) := by decide +kernel
theorem d_121_133 : decode (mth 121).2.1 133 = .ok (.aload_n 0, 1) := by decide +kernel
theorem d_121_134 : decode (mth 121).2.1 134 = .ok (.iload 5, 2) := by decide +kernel
theorem d_121_136 : decode (mth 121).2.1 136 = .ok (.putfield 43, 3) := by decide +kernel
theorem d_121_139 : decode (mth 121).2.1 139 = .ok (.iinc 5 1, 3) := by decide +kernel
theorem d_121_142 : decode (mth 121).2.1 142 = .ok (.goto (-84), 3) := by decide +kernel
theorem d_121_145 : decode (mth 121).2.1 145 = .ok (.iload_n 3, 1) := by decide +kernel
theorem d_121_146 : decode (mth 121).2.1 146 = .ok (.ireturn, 1) := by decide +kernel
/-! 137 PlayedTruth$Ahead.timesByLot(II)I -/
theorem d_137_0 : decode (mth 137).2.1 0 = .ok (.iconst 0, 1) := by decide +kernel
theorem d_137_1 : decode (mth 137).2.1 1 = .ok (.istore_n 3, 1) := by decide +kernel
theorem d_137_2 : decode (mth 137).2.1 2 = .ok (.aload_n 0, 1) := by decide +kernel
theorem d_137_3 : decode (mth 137).2.1 3 = .ok (.getfield 50, 3) := by decide +kernel
theorem d_137_6 : decode (mth 137).2.1 6 = .ok (.getfield 90, 3) := by decide +kernel
theorem d_137_9 : decode (mth 137).2.1 9 = .ok (.istore 4, 2) := by decide +kernel
theorem d_137_11 : decode (mth 137).2.1 11 = .ok (.iconst 0, 1) := by decide +kernel
theorem d_137_12 : decode (mth 137).2.1 12 = .ok (.istore 5, 2) := by decide +kernel
theorem d_137_14 : decode (mth 137).2.1 14 = .ok (.iload 5, 2) := by decide +kernel
theorem d_137_16 : decode (mth 137).2.1 16 = .ok (.iload_n 1, 1) := by decide +kernel
theorem d_137_17 : decode (mth 137).2.1 17 = .ok (.if_icmp .ge 87, 3) := by decide +kernel
theorem d_137_20 : decode (mth 137).2.1 20 = .ok (.aload_n 0, 1) := by decide +kernel
theorem d_137_21 : decode (mth 137).2.1 21 = .ok (.invokevirtual 59, 3) := by decide +kernel
theorem d_137_24 : decode (mth 137).2.1 24 = .ok (.astore 6, 2) := by decide +kernel
theorem d_137_26 : decode (mth 137).2.1 26 = .ok (.aload 6, 2) := by decide +kernel
theorem d_137_28 : decode (mth 137).2.1 28 = .ok (.iload 4, 2) := by decide +kernel
theorem d_137_30 : decode (mth 137).2.1 30 = .ok (.putfield 90, 3) := by decide +kernel
theorem d_137_33 : decode (mth 137).2.1 33 = .ok (.iconst 0, 1) := by decide +kernel
theorem d_137_34 : decode (mth 137).2.1 34 = .ok (.istore 7, 2) := by decide +kernel
theorem d_137_36 : decode (mth 137).2.1 36 = .ok (.iload 7, 2) := by decide +kernel
theorem d_137_38 : decode (mth 137).2.1 38 = .ok (.bipush 16, 2) := by decide +kernel
theorem d_137_40 : decode (mth 137).2.1 40 = .ok (.if_icmp .ge 31, 3) := by decide +kernel
theorem d_137_43 : decode (mth 137).2.1 43 = .ok (.aload_n 0, 1) := by decide +kernel
theorem d_137_44 : decode (mth 137).2.1 44 = .ok (.getfield 46, 3) := by decide +kernel
theorem d_137_47 : decode (mth 137).2.1 47 = .ok (.aload 6, 2) := by decide +kernel
theorem d_137_49 : decode (mth 137).2.1 49 = .ok (.invokevirtual 63, 3) := by decide +kernel
theorem d_137_52 : decode (mth 137).2.1 52 = .ok (.ifCond .ne 19, 3) := by decide +kernel
theorem d_137_55 : decode (mth 137).2.1 55 = .ok (.aload_n 0, 1) := by decide +kernel
theorem d_137_56 : decode (mth 137).2.1 56 = .ok (.getfield 46, 3) := by decide +kernel
theorem d_137_59 : decode (mth 137).2.1 59 = .ok (.aload 6, 2) := by decide +kernel
theorem d_137_61 : decode (mth 137).2.1 61 = .ok (.invokevirtual 93, 3) := by decide +kernel
theorem d_137_64 : decode (mth 137).2.1 64 = .ok (.pop, 1) := by decide +kernel
theorem d_137_65 : decode (mth 137).2.1 65 = .ok (.iinc 7 1, 3) := by decide +kernel
theorem d_137_68 : decode (mth 137).2.1 68 = .ok (.goto (-32), 3) := by decide +kernel
theorem d_137_71 : decode (mth 137).2.1 71 = .ok (.aload 6, 2) := by decide +kernel
theorem d_137_73 : decode (mth 137).2.1 73 = .ok (.getfield 90, 3) := by decide +kernel
theorem d_137_76 : decode (mth 137).2.1 76 = .ok (.istore 4, 2) := by decide +kernel
theorem d_137_78 : decode (mth 137).2.1 78 = .ok (.aload 6, 2) := by decide +kernel
theorem d_137_80 : decode (mth 137).2.1 80 = .ok (.getfield 77, 3) := by decide +kernel
theorem d_137_83 : decode (mth 137).2.1 83 = .ok (.aload_n 0, 1) := by decide +kernel
theorem d_137_84 : decode (mth 137).2.1 84 = .ok (.getfield 50, 3) := by decide +kernel
theorem d_137_87 : decode (mth 137).2.1 87 = .ok (.getfield 77, 3) := by decide +kernel
theorem d_137_90 : decode (mth 137).2.1 90 = .ok (.isub, 1) := by decide +kernel
theorem d_137_91 : decode (mth 137).2.1 91 = .ok (.iload_n 2, 1) := by decide +kernel
theorem d_137_92 : decode (mth 137).2.1 92 = .ok (.if_icmp .lt 6, 3) := by decide +kernel
theorem d_137_95 : decode (mth 137).2.1 95 = .ok (.iinc 3 1, 3) := by decide +kernel
theorem d_137_98 : decode (mth 137).2.1 98 = .ok (.iinc 5 1, 3) := by decide +kernel
theorem d_137_101 : decode (mth 137).2.1 101 = .ok (.goto (-87), 3) := by decide +kernel
theorem d_137_104 : decode (mth 137).2.1 104 = .ok (.iload_n 3, 1) := by decide +kernel
theorem d_137_105 : decode (mth 137).2.1 105 = .ok (.ireturn, 1) := by decide +kernel
/-! 139 PlayedTruth$Ahead.writeRows([I)V -/
theorem d_139_0 : decode (mth 139).2.1 0 = .ok (.aload_n 0, 1) := by decide +kernel
theorem d_139_1 : decode (mth 139).2.1 1 = .ok (.invokevirtual 59, 3) := by decide +kernel
theorem d_139_4 : decode (mth 139).2.1 4 = .ok (.astore_n 2, 1) := by decide +kernel
theorem d_139_5 : decode (mth 139).2.1 5 = .ok (.iconst 0, 1) := by decide +kernel
theorem d_139_6 : decode (mth 139).2.1 6 = .ok (.istore_n 3, 1) := by decide +kernel
theorem d_139_7 : decode (mth 139).2.1 7 = .ok (.iload_n 3, 1) := by decide +kernel
theorem d_139_8 : decode (mth 139).2.1 8 = .ok (.aload_n 0, 1) := by decide +kernel
theorem d_139_9 : decode (mth 139).2.1 9 = .ok (.getfield 25, 3) := by decide +kernel
theorem d_139_12 : decode (mth 139).2.1 12 = .ok (.if_icmp .ge 52, 3) := by decide +kernel
theorem d_139_15 : decode (mth 139).2.1 15 = .ok (.aload_n 1, 1) := by decide +kernel
theorem d_139_16 : decode (mth 139).2.1 16 = .ok (.iload_n 3, 1) := by decide +kernel
theorem d_139_17 : decode (mth 139).2.1 17 = .ok (.iconst 3, 1) := by decide +kernel
theorem d_139_18 : decode (mth 139).2.1 18 = .ok (.imul, 1) := by decide +kernel
theorem d_139_19 : decode (mth 139).2.1 19 = .ok (.aload_n 0, 1) := by decide +kernel
theorem d_139_20 : decode (mth 139).2.1 20 = .ok (.getfield 34, 3) := by decide +kernel
theorem d_139_23 : decode (mth 139).2.1 23 = .ok (.iload_n 3, 1) := by decide +kernel
theorem d_139_24 : decode (mth 139).2.1 24 = .ok (.iaload, 1) := by decide +kernel
theorem d_139_25 : decode (mth 139).2.1 25 = .ok (.iastore, 1) := by decide +kernel
theorem d_139_26 : decode (mth 139).2.1 26 = .ok (.aload_n 1, 1) := by decide +kernel
theorem d_139_27 : decode (mth 139).2.1 27 = .ok (.iload_n 3, 1) := by decide +kernel
theorem d_139_28 : decode (mth 139).2.1 28 = .ok (.iconst 3, 1) := by decide +kernel
theorem d_139_29 : decode (mth 139).2.1 29 = .ok (.imul, 1) := by decide +kernel
theorem d_139_30 : decode (mth 139).2.1 30 = .ok (.iconst 1, 1) := by decide +kernel
theorem d_139_31 : decode (mth 139).2.1 31 = .ok (.iadd, 1) := by decide +kernel
theorem d_139_32 : decode (mth 139).2.1 32 = .ok (.aload_n 0, 1) := by decide +kernel
theorem d_139_33 : decode (mth 139).2.1 33 = .ok (.getfield 46, 3) := by decide +kernel
theorem d_139_36 : decode (mth 139).2.1 36 = .ok (.aload_n 2, 1) := by decide +kernel
theorem d_139_37 : decode (mth 139).2.1 37 = .ok (.aload_n 0, 1) := by decide +kernel
theorem d_139_38 : decode (mth 139).2.1 38 = .ok (.getfield 34, 3) := by decide +kernel
theorem d_139_41 : decode (mth 139).2.1 41 = .ok (.iload_n 3, 1) := by decide +kernel
theorem d_139_42 : decode (mth 139).2.1 42 = .ok (.iaload, 1) := by decide +kernel
theorem d_139_43 : decode (mth 139).2.1 43 = .ok (.invokevirtual 73, 3) := by decide +kernel
theorem d_139_46 : decode (mth 139).2.1 46 = .ok (.iastore, 1) := by decide +kernel
theorem d_139_47 : decode (mth 139).2.1 47 = .ok (.aload_n 1, 1) := by decide +kernel
theorem d_139_48 : decode (mth 139).2.1 48 = .ok (.iload_n 3, 1) := by decide +kernel
theorem d_139_49 : decode (mth 139).2.1 49 = .ok (.iconst 3, 1) := by decide +kernel
theorem d_139_50 : decode (mth 139).2.1 50 = .ok (.imul, 1) := by decide +kernel
theorem d_139_51 : decode (mth 139).2.1 51 = .ok (.iconst 2, 1) := by decide +kernel
theorem d_139_52 : decode (mth 139).2.1 52 = .ok (.iadd, 1) := by decide +kernel
theorem d_139_53 : decode (mth 139).2.1 53 = .ok (.aload_n 2, 1) := by decide +kernel
theorem d_139_54 : decode (mth 139).2.1 54 = .ok (.getfield 142, 3) := by decide +kernel
theorem d_139_57 : decode (mth 139).2.1 57 = .ok (.iastore, 1) := by decide +kernel
theorem d_139_58 : decode (mth 139).2.1 58 = .ok (.iinc 3 1, 3) := by decide +kernel
theorem d_139_61 : decode (mth 139).2.1 61 = .ok (.goto (-54), 3) := by decide +kernel
theorem d_139_64 : decode (mth 139).2.1 64 = .ok (.return_, 1) := by decide +kernel
/-! 144 PlayedTruth$Ahead.firstWrongRow([II)I -/
theorem d_144_0 : decode (mth 144).2.1 0 = .ok (.aload_n 0, 1) := by decide +kernel
theorem d_144_1 : decode (mth 144).2.1 1 = .ok (.invokevirtual 59, 3) := by decide +kernel
theorem d_144_4 : decode (mth 144).2.1 4 = .ok (.astore_n 3, 1) := by decide +kernel
theorem d_144_5 : decode (mth 144).2.1 5 = .ok (.iconst 0, 1) := by decide +kernel
theorem d_144_6 : decode (mth 144).2.1 6 = .ok (.istore 4, 2) := by decide +kernel
theorem d_144_8 : decode (mth 144).2.1 8 = .ok (.iload 4, 2) := by decide +kernel
theorem d_144_10 : decode (mth 144).2.1 10 = .ok (.iload_n 2, 1) := by decide +kernel
theorem d_144_11 : decode (mth 144).2.1 11 = .ok (.if_icmp .ge 90, 3) := by decide +kernel
theorem d_144_14 : decode (mth 144).2.1 14 = .ok (.aload_n 1, 1) := by decide +kernel
theorem d_144_15 : decode (mth 144).2.1 15 = .ok (.iload 4, 2) := by decide +kernel
theorem d_144_17 : decode (mth 144).2.1 17 = .ok (.iconst 3, 1) := by decide +kernel
theorem d_144_18 : decode (mth 144).2.1 18 = .ok (.imul, 1) := by decide +kernel
theorem d_144_19 : decode (mth 144).2.1 19 = .ok (.iaload, 1) := by decide +kernel
theorem d_144_20 : decode (mth 144).2.1 20 = .ok (.istore 5, 2) := by decide +kernel
theorem d_144_22 : decode (mth 144).2.1 22 = .ok (.aload_n 0, 1) := by decide +kernel
theorem d_144_23 : decode (mth 144).2.1 23 = .ok (.getfield 46, 3) := by decide +kernel
theorem d_144_26 : decode (mth 144).2.1 26 = .ok (.iload 5, 2) := by decide +kernel
theorem d_144_28 : decode (mth 144).2.1 28 = .ok (.invokevirtual 106, 3) := by decide +kernel
theorem d_144_31 : decode (mth 144).2.1 31 = .ok (.ifCond .eq 14, 3) := by decide +kernel
theorem d_144_34 : decode (mth 144).2.1 34 = .ok (.aload_n 0, 1) := by decide +kernel
theorem d_144_35 : decode (mth 144).2.1 35 = .ok (.getfield 46, 3) := by decide +kernel
theorem d_144_38 : decode (mth 144).2.1 38 = .ok (.aload_n 3, 1) := by decide +kernel
theorem d_144_39 : decode (mth 144).2.1 39 = .ok (.invokevirtual 63, 3) := by decide +kernel
theorem d_144_42 : decode (mth 144).2.1 42 = .ok (.ifCond .eq 8, 3) := by decide +kernel
theorem d_144_45 : decode (mth 144).2.1 45 = .ok (.iload 4, 2) := by decide +kernel
theorem d_144_47 : decode (mth 144).2.1 47 = .ok (.iconst 1, 1) := by decide +kernel
theorem d_144_48 : decode (mth 144).2.1 48 = .ok (.iadd, 1) := by decide +kernel
theorem d_144_49 : decode (mth 144).2.1 49 = .ok (.ireturn, 1) := by decide +kernel
theorem d_144_50 : decode (mth 144).2.1 50 = .ok (.aload_n 0, 1) := by decide +kernel
theorem d_144_51 : decode (mth 144).2.1 51 = .ok (.getfield 46, 3) := by decide +kernel
theorem d_144_54 : decode (mth 144).2.1 54 = .ok (.aload_n 3, 1) := by decide +kernel
theorem d_144_55 : decode (mth 144).2.1 55 = .ok (.iload 5, 2) := by decide +kernel
theorem d_144_57 : decode (mth 144).2.1 57 = .ok (.invokevirtual 73, 3) := by decide +kernel
theorem d_144_60 : decode (mth 144).2.1 60 = .ok (.istore 6, 2) := by decide +kernel
theorem d_144_62 : decode (mth 144).2.1 62 = .ok (.aload_n 1, 1) := by decide +kernel
theorem d_144_63 : decode (mth 144).2.1 63 = .ok (.iload 4, 2) := by decide +kernel
theorem d_144_65 : decode (mth 144).2.1 65 = .ok (.iconst 3, 1) := by decide +kernel
theorem d_144_66 : decode (mth 144).2.1 66 = .ok (.imul, 1) := by decide +kernel
theorem d_144_67 : decode (mth 144).2.1 67 = .ok (.iconst 1, 1) := by decide +kernel
theorem d_144_68 : decode (mth 144).2.1 68 = .ok (.iadd, 1) := by decide +kernel
theorem d_144_69 : decode (mth 144).2.1 69 = .ok (.iaload, 1) := by decide +kernel
theorem d_144_70 : decode (mth 144).2.1 70 = .ok (.iload 6, 2) := by decide +kernel
theorem d_144_72 : decode (mth 144).2.1 72 = .ok (.if_icmp .ne 18, 3) := by decide +kernel
theorem d_144_75 : decode (mth 144).2.1 75 = .ok (.aload_n 1, 1) := by decide +kernel
theorem d_144_76 : decode (mth 144).2.1 76 = .ok (.iload 4, 2) := by decide +kernel
theorem d_144_78 : decode (mth 144).2.1 78 = .ok (.iconst 3, 1) := by decide +kernel
theorem d_144_79 : decode (mth 144).2.1 79 = .ok (.imul, 1) := by decide +kernel
theorem d_144_80 : decode (mth 144).2.1 80 = .ok (.iconst 2, 1) := by decide +kernel
theorem d_144_81 : decode (mth 144).2.1 81 = .ok (.iadd, 1) := by decide +kernel
theorem d_144_82 : decode (mth 144).2.1 82 = .ok (.iaload, 1) := by decide +kernel
theorem d_144_83 : decode (mth 144).2.1 83 = .ok (.aload_n 3, 1) := by decide +kernel
theorem d_144_84 : decode (mth 144).2.1 84 = .ok (.getfield 142, 3) := by decide +kernel
theorem d_144_87 : decode (mth 144).2.1 87 = .ok (.if_icmp .eq 8, 3) := by decide +kernel
theorem d_144_90 : decode (mth 144).2.1 90 = .ok (.iload 4, 2) := by decide +kernel
theorem d_144_92 : decode (mth 144).2.1 92 = .ok (.iconst 1, 1) := by decide +kernel
theorem d_144_93 : decode (mth 144).2.1 93 = .ok (.iadd, 1) := by decide +kernel
theorem d_144_94 : decode (mth 144).2.1 94 = .ok (.ireturn, 1) := by decide +kernel
theorem d_144_95 : decode (mth 144).2.1 95 = .ok (.iinc 4 1, 3) := by decide +kernel
theorem d_144_98 : decode (mth 144).2.1 98 = .ok (.goto (-90), 3) := by decide +kernel
theorem d_144_101 : decode (mth 144).2.1 101 = .ok (.iconst 0, 1) := by decide +kernel
theorem d_144_102 : decode (mth 144).2.1 102 = .ok (.ireturn, 1) := by decide +kernel
/-! 156 PlayedTruth$Ahead.worthOfItems(LPlayedTruth$Host;III)I -/
theorem d_156_0 : decode (mth 156).2.1 0 = .ok (.aload_n 0, 1) := by decide +kernel
theorem d_156_1 : decode (mth 156).2.1 1 = .ok (.invokevirtual 59, 3) := by decide +kernel
theorem d_156_4 : decode (mth 156).2.1 4 = .ok (.astore 5, 2) := by decide +kernel
theorem d_156_6 : decode (mth 156).2.1 6 = .ok (.iconst 0, 1) := by decide +kernel
theorem d_156_7 : decode (mth 156).2.1 7 = .ok (.istore 6, 2) := by decide +kernel
theorem d_156_9 : decode (mth 156).2.1 9 = .ok (.iload 6, 2) := by decide +kernel
theorem d_156_11 : decode (mth 156).2.1 11 = .ok (.iload 4, 2) := by decide +kernel
theorem d_156_13 : decode (mth 156).2.1 13 = .ok (.if_icmp .ge 76, 3) := by decide +kernel
theorem d_156_16 : decode (mth 156).2.1 16 = .ok (.aload_n 1, 1) := by decide +kernel
theorem d_156_17 : decode (mth 156).2.1 17 = .ok (.iload_n 2, 1) := by decide +kernel
theorem d_156_18 : decode (mth 156).2.1 18 = .ok (.iload_n 3, 1) := by decide +kernel
theorem d_156_19 : decode (mth 156).2.1 19 = .ok (.iload 6, 2) := by decide +kernel
theorem d_156_21 : decode (mth 156).2.1 21 = .ok (.iadd, 1) := by decide +kernel
theorem d_156_22 : decode (mth 156).2.1 22 = .ok (.invokevirtual 96, 3) := by decide +kernel
theorem d_156_25 : decode (mth 156).2.1 25 = .ok (.ifCond .ne 6, 3) := by decide +kernel
theorem d_156_28 : decode (mth 156).2.1 28 = .ok (.bipush (-12), 2) := by decide +kernel
theorem d_156_30 : decode (mth 156).2.1 30 = .ok (.ireturn, 1) := by decide +kernel
theorem d_156_31 : decode (mth 156).2.1 31 = .ok (.aload_n 1, 1) := by decide +kernel
theorem d_156_32 : decode (mth 156).2.1 32 = .ok (.getfield 102, 3) := by decide +kernel
theorem d_156_35 : decode (mth 156).2.1 35 = .ok (.iload_n 2, 1) := by decide +kernel
theorem d_156_36 : decode (mth 156).2.1 36 = .ok (.aaload, 1) := by decide +kernel
theorem d_156_37 : decode (mth 156).2.1 37 = .ok (.iload_n 3, 1) := by decide +kernel
theorem d_156_38 : decode (mth 156).2.1 38 = .ok (.iload 6, 2) := by decide +kernel
theorem d_156_40 : decode (mth 156).2.1 40 = .ok (.iadd, 1) := by decide +kernel
theorem d_156_41 : decode (mth 156).2.1 41 = .ok (.iaload, 1) := by decide +kernel
theorem d_156_42 : decode (mth 156).2.1 42 = .ok (.istore 7, 2) := by decide +kernel
theorem d_156_44 : decode (mth 156).2.1 44 = .ok (.aload_n 0, 1) := by decide +kernel
theorem d_156_45 : decode (mth 156).2.1 45 = .ok (.getfield 46, 3) := by decide +kernel
theorem d_156_48 : decode (mth 156).2.1 48 = .ok (.iload 7, 2) := by decide +kernel
theorem d_156_50 : decode (mth 156).2.1 50 = .ok (.invokevirtual 106, 3) := by decide +kernel
theorem d_156_53 : decode (mth 156).2.1 53 = .ok (.ifCond .eq 15, 3) := by decide +kernel
theorem d_156_56 : decode (mth 156).2.1 56 = .ok (.aload_n 0, 1) := by decide +kernel
theorem d_156_57 : decode (mth 156).2.1 57 = .ok (.getfield 46, 3) := by decide +kernel
theorem d_156_60 : decode (mth 156).2.1 60 = .ok (.aload 5, 2) := by decide +kernel
theorem d_156_62 : decode (mth 156).2.1 62 = .ok (.invokevirtual 63, 3) := by decide +kernel
theorem d_156_65 : decode (mth 156).2.1 65 = .ok (.ifCond .eq 6, 3) := by decide +kernel
theorem d_156_68 : decode (mth 156).2.1 68 = .ok (.bipush (-4), 2) := by decide +kernel
theorem d_156_70 : decode (mth 156).2.1 70 = .ok (.ireturn, 1) := by decide +kernel
theorem d_156_71 : decode (mth 156).2.1 71 = .ok (.aload_n 0, 1) := by decide +kernel
theorem d_156_72 : decode (mth 156).2.1 72 = .ok (.getfield 46, 3) := by decide +kernel
theorem d_156_75 : decode (mth 156).2.1 75 = .ok (.aload 5, 2) := by decide +kernel
theorem d_156_77 : decode (mth 156).2.1 77 = .ok (.iload 7, 2) := by decide +kernel
theorem d_156_79 : decode (mth 156).2.1 79 = .ok (.invokevirtual 73, 3) := by decide +kernel
theorem d_156_82 : decode (mth 156).2.1 82 = .ok (.pop, 1) := by decide +kernel
theorem d_156_83 : decode (mth 156).2.1 83 = .ok (.iinc 6 1, 3) := by decide +kernel
theorem d_156_86 : decode (mth 156).2.1 86 = .ok (.goto (-77), 3) := by decide +kernel
theorem d_156_89 : decode (mth 156).2.1 89 = .ok (.aload 5, 2) := by decide +kernel
theorem d_156_91 : decode (mth 156).2.1 91 = .ok (.getfield 77, 3) := by decide +kernel
theorem d_156_94 : decode (mth 156).2.1 94 = .ok (.aload_n 0, 1) := by decide +kernel
theorem d_156_95 : decode (mth 156).2.1 95 = .ok (.getfield 50, 3) := by decide +kernel
theorem d_156_98 : decode (mth 156).2.1 98 = .ok (.getfield 77, 3) := by decide +kernel
theorem d_156_101 : decode (mth 156).2.1 101 = .ok (.isub, 1) := by decide +kernel
theorem d_156_102 : decode (mth 156).2.1 102 = .ok (.ireturn, 1) := by decide +kernel
