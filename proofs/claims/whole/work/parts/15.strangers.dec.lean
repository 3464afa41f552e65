/-! 124 PlayedTruth$Strangers.add(IIII)I -/
theorem d_124_0 : decode (mth 124).2.1 0 = .ok (.aload_n 0, 1) := by decide +kernel
theorem d_124_1 : decode (mth 124).2.1 1 = .ok (.getfield 24, 3) := by decide +kernel
theorem d_124_4 : decode (mth 124).2.1 4 = .ok (.bipush 6, 2) := by decide +kernel
theorem d_124_6 : decode (mth 124).2.1 6 = .ok (.if_icmp .lt 6, 3) := by decide +kernel
theorem d_124_9 : decode (mth 124).2.1 9 = .ok (.bipush (-2), 2) := by decide +kernel
theorem d_124_11 : decode (mth 124).2.1 11 = .ok (.ireturn, 1) := by decide +kernel
theorem d_124_12 : decode (mth 124).2.1 12 = .ok (.aload_n 0, 1) := by decide +kernel
theorem d_124_13 : decode (mth 124).2.1 13 = .ok (.getfield 11, 3) := by decide +kernel
theorem d_124_16 : decode (mth 124).2.1 16 = .ok (.aload_n 0, 1) := by decide +kernel
theorem d_124_17 : decode (mth 124).2.1 17 = .ok (.getfield 24, 3) := by decide +kernel
theorem d_124_20 : decode (mth 124).2.1 20 = .ok (.iload_n 1, 1) := by decide +kernel
theorem d_124_21 : decode (mth 124).2.1 21 = .ok (.iastore, 1) := by decide +kernel
theorem d_124_22 : decode (mth 124).2.1 22 = .ok (.aload_n 0, 1) := by decide +kernel
theorem d_124_23 : decode (mth 124).2.1 23 = .ok (.getfield 15, 3) := by decide +kernel
theorem d_124_26 : decode (mth 124).2.1 26 = .ok (.aload_n 0, 1) := by decide +kernel
theorem d_124_27 : decode (mth 124).2.1 27 = .ok (.getfield 24, 3) := by decide +kernel
theorem d_124_30 : decode (mth 124).2.1 30 = .ok (.iload_n 2, 1) := by decide +kernel
theorem d_124_31 : decode (mth 124).2.1 31 = .ok (.iastore, 1) := by decide +kernel
theorem d_124_32 : decode (mth 124).2.1 32 = .ok (.aload_n 0, 1) := by decide +kernel
theorem d_124_33 : decode (mth 124).2.1 33 = .ok (.getfield 18, 3) := by decide +kernel
theorem d_124_36 : decode (mth 124).2.1 36 = .ok (.aload_n 0, 1) := by decide +kernel
theorem d_124_37 : decode (mth 124).2.1 37 = .ok (.getfield 24, 3) := by decide +kernel
theorem d_124_40 : decode (mth 124).2.1 40 = .ok (.iload_n 3, 1) := by decide +kernel
theorem d_124_41 : decode (mth 124).2.1 41 = .ok (.iastore, 1) := by decide +kernel
theorem d_124_42 : decode (mth 124).2.1 42 = .ok (.aload_n 0, 1) := by decide +kernel
theorem d_124_43 : decode (mth 124).2.1 43 = .ok (.getfield 21, 3) := by decide +kernel
theorem d_124_46 : decode (mth 124).2.1 46 = .ok (.aload_n 0, 1) := by decide +kernel
theorem d_124_47 : decode (mth 124).2.1 47 = .ok (.getfield 24, 3) := by decide +kernel
theorem d_124_50 : decode (mth 124).2.1 50 = .ok (.iload 4, 2) := by decide +kernel
theorem d_124_52 : decode (mth 124).2.1 52 = .ok (.iastore, 1) := by decide +kernel
theorem d_124_53 : decode (mth 124).2.1 53 = .ok (.aload_n 0, 1) := by decide +kernel
theorem d_124_54 : decode (mth 124).2.1 54 = .ok (.dup, 1) := by decide +kernel
theorem d_124_55 : decode (mth 124).2.1 55 = .ok (.getfield 24, 3) := by decide +kernel
theorem d_124_58 : decode (mth 124).2.1 58 = .ok (.dup_x1, 1) := by decide +kernel
theorem d_124_59 : decode (mth 124).2.1 59 = .ok (.iconst 1, 1) := by decide +kernel
theorem d_124_60 : decode (mth 124).2.1 60 = .ok (.iadd, 1) := by decide +kernel
theorem d_124_61 : decode (mth 124).2.1 61 = .ok (.putfield 24, 3) := by decide +kernel
theorem d_124_64 : decode (mth 124).2.1 64 = .ok (.ireturn, 1) := by decide +kernel
/-! 127 PlayedTruth$Strangers.lookForFits(LPlayedTruth$Stage;)V -/
theorem d_127_0 : decode (mth 127).2.1 0 = .ok (.aload_n 0, 1) := by decide +kernel
theorem d_127_1 : decode (mth 127).2.1 1 = .ok (.iconst 0, 1) := by decide +kernel
theorem d_127_2 : decode (mth 127).2.1 2 = .ok (.putfield 28, 3) := by decide +kernel
theorem d_127_5 : decode (mth 127).2.1 5 = .ok (.aload_n 0, 1) := by decide +kernel
theorem d_127_6 : decode (mth 127).2.1 6 = .ok (.iconst 0, 1) := by decide +kernel
theorem d_127_7 : decode (mth 127).2.1 7 = .ok (.putfield 40, 3) := by decide +kernel
theorem d_127_10 : decode (mth 127).2.1 10 = .ok (.aload_n 0, 1) := by decide +kernel
theorem d_127_11 : decode (mth 127).2.1 11 = .ok (.invokevirtual 49, 3) := by decide +kernel
theorem d_127_14 : decode (mth 127).2.1 14 = .ok (.istore_n 2, 1) := by decide +kernel
theorem d_127_15 : decode (mth 127).2.1 15 = .ok (.iconst 1, 1) := by decide +kernel
theorem d_127_16 : decode (mth 127).2.1 16 = .ok (.istore_n 3, 1) := by decide +kernel
theorem d_127_17 : decode (mth 127).2.1 17 = .ok (.iload_n 3, 1) := by decide +kernel
theorem d_127_18 : decode (mth 127).2.1 18 = .ok (.iconst 5, 1) := by decide +kernel
theorem d_127_19 : decode (mth 127).2.1 19 = .ok (.if_icmp .gt 88, 3) := by decide +kernel
theorem d_127_22 : decode (mth 127).2.1 22 = .ok (.iconst 0, 1) := by decide +kernel
theorem d_127_23 : decode (mth 127).2.1 23 = .ok (.istore 4, 2) := by decide +kernel
theorem d_127_25 : decode (mth 127).2.1 25 = .ok (.iload 4, 2) := by decide +kernel
theorem d_127_27 : decode (mth 127).2.1 27 = .ok (.bipush 9, 2) := by decide +kernel
theorem d_127_29 : decode (mth 127).2.1 29 = .ok (.if_icmp .gt 72, 3) := by decide +kernel
theorem d_127_32 : decode (mth 127).2.1 32 = .ok (.iconst 0, 1) := by decide +kernel
theorem d_127_33 : decode (mth 127).2.1 33 = .ok (.istore 5, 2) := by decide +kernel
theorem d_127_35 : decode (mth 127).2.1 35 = .ok (.iload 5, 2) := by decide +kernel
theorem d_127_37 : decode (mth 127).2.1 37 = .ok (.bipush 54, 2) := by decide +kernel
theorem d_127_39 : decode (mth 127).2.1 39 = .ok (.if_icmp .gt 56, 3) := by decide +kernel
theorem d_127_42 : decode (mth 127).2.1 42 = .ok (.aload_n 0, 1) := by decide +kernel
theorem d_127_43 : decode (mth 127).2.1 43 = .ok (.aload_n 1, 1) := by decide +kernel
theorem d_127_44 : decode (mth 127).2.1 44 = .ok (.iload_n 2, 1) := by decide +kernel
theorem d_127_45 : decode (mth 127).2.1 45 = .ok (.iload_n 3, 1) := by decide +kernel
theorem d_127_46 : decode (mth 127).2.1 46 = .ok (.iload 4, 2) := by decide +kernel
theorem d_127_48 : decode (mth 127).2.1 48 = .ok (.iload 5, 2) := by decide +kernel
theorem d_127_50 : decode (mth 127).2.1 50 = .ok (.invokevirtual 55, 3) := by decide +kernel
theorem d_127_53 : decode (mth 127).2.1 53 = .ok (.istore 6, 2) := by decide +kernel
theorem d_127_55 : decode (mth 127).2.1 55 = .ok (.iload 6, 2) := by decide +kernel
theorem d_127_57 : decode (mth 127).2.1 57 = .ok (.ifCond .ne 12, 3) := by decide +kernel
theorem d_127_60 : decode (mth 127).2.1 60 = .ok (.aload_n 0, 1) := by decide +kernel
theorem d_127_61 : decode (mth 127).2.1 61 = .ok (.iload_n 3, 1) := by decide +kernel
theorem d_127_62 : decode (mth 127).2.1 62 = .ok (.iload 4, 2) := by decide +kernel
theorem d_127_64 : decode (mth 127).2.1 64 = .ok (.iload 5, 2) := by decide +kernel
theorem d_127_66 : decode (mth 127).2.1 66 = .ok (.invokevirtual 59, 3) := by decide +kernel
theorem d_127_69 : decode (mth 127).2.1 69 = .ok (.iload 6, 2) := by decide +kernel
theorem d_127_71 : decode (mth 127).2.1 71 = .ok (.invokestatic 63, 3) := by decide +kernel
theorem d_127_74 : decode (mth 127).2.1 74 = .ok (.iconst 1, 1) := by decide +kernel
theorem d_127_75 : decode (mth 127).2.1 75 = .ok (.if_icmp .ne 14, 3) := by decide +kernel
theorem d_127_78 : decode (mth 127).2.1 78 = .ok (.aload_n 0, 1) := by decide +kernel
theorem d_127_79 : decode (mth 127).2.1 79 = .ok (.dup, 1) := by decide +kernel
theorem d_127_80 : decode (mth 127).2.1 80 = .ok (.getfield 40, 3) := by decide +kernel
theorem d_127_83 : decode (mth 127).2.1 83 = .ok (.iload 6, 2) := by decide +kernel
theorem d_127_85 : decode (mth 127).2.1 85 = .ok (.ior, 1) := by decide +kernel
theorem d_127_86 : decode (mth 127).2.1 86 = .ok (.putfield 40, 3) := by decide +kernel
theorem d_127_89 : decode (mth 127).2.1 89 = .ok (.iinc 5 6, 3) := by decide +kernel
theorem d_127_92 : decode (mth 127).2.1 92 = .ok (.goto (-57), 3) := by decide +kernel
theorem d_127_95 : decode (mth 127).2.1 95 = .ok (.iinc 4 1, 3) := by decide +kernel
theorem d_127_98 : decode (mth 127).2.1 98 = .ok (.goto (-73), 3) := by decide +kernel
theorem d_127_101 : decode (mth 127).2.1 101 = .ok (.iinc 3 1, 3) := by decide +kernel
theorem d_127_104 : decode (mth 127).2.1 104 = .ok (.goto (-87), 3) := by decide +kernel
theorem d_127_107 : decode (mth 127).2.1 107 = .ok (.return_, 1) := by decide +kernel
/-! 128 PlayedTruth$Strangers.lastNight()I -/
theorem d_128_0 : decode (mth 128).2.1 0 = .ok (.iconst (-1), 1) := by decide +kernel
theorem d_128_1 : decode (mth 128).2.1 1 = .ok (.istore_n 1, 1) := by decide +kernel
theorem d_128_2 : decode (mth 128).2.1 2 = .ok (.iconst 0, 1) := by decide +kernel
theorem d_128_3 : decode (mth 128).2.1 3 = .ok (.istore_n 2, 1) := by decide +kernel
theorem d_128_4 : decode (mth 128).2.1 4 = .ok (.iload_n 2, 1) := by decide +kernel
theorem d_128_5 : decode (mth 128).2.1 5 = .ok (.aload_n 0, 1) := by decide +kernel
theorem d_128_6 : decode (mth 128).2.1 6 = .ok (.getfield 24, 3) := by decide +kernel
theorem d_128_9 : decode (mth 128).2.1 9 = .ok (.if_icmp .ge 20, 3) := by decide +kernel
theorem d_128_12 : decode (mth 128).2.1 12 = .ok (.iload_n 1, 1) := by decide +kernel
theorem d_128_13 : decode (mth 128).2.1 13 = .ok (.aload_n 0, 1) := by decide +kernel
theorem d_128_14 : decode (mth 128).2.1 14 = .ok (.getfield 11, 3) := by decide +kernel
theorem d_128_17 : decode (mth 128).2.1 17 = .ok (.iload_n 2, 1) := by decide +kernel
theorem d_128_18 : decode (mth 128).2.1 18 = .ok (.iaload, 1) := by decide +kernel
theorem d_128_19 : decode (mth 128).2.1 19 = .ok (.invokestatic 69, 3) := by decide +kernel
theorem d_128_22 : decode (mth 128).2.1 22 = .ok (.istore_n 1, 1) := by decide +kernel
theorem d_128_23 : decode (mth 128).2.1 23 = .ok (.iinc 2 1, 3) := by decide +kernel
theorem d_128_26 : decode (mth 128).2.1 26 = .ok (.goto (-22), 3) := by decide +kernel
theorem d_128_29 : decode (mth 128).2.1 29 = .ok (.iload_n 1, 1) := by decide +kernel
theorem d_128_30 : decode (mth 128).2.1 30 = .ok (.ireturn, 1) := by decide +kernel
/-! 129 PlayedTruth$Strangers.missedBy(LPlayedTruth$Stage;IIII)I -/
theorem d_129_0 : decode (mth 129).2.1 0 = .ok (.iconst 0, 1) := by decide +kernel
theorem d_129_1 : decode (mth 129).2.1 1 = .ok (.istore 6, 2) := by decide +kernel
theorem d_129_3 : decode (mth 129).2.1 3 = .ok (.iload 5, 2) := by decide +kernel
theorem d_129_5 : decode (mth 129).2.1 5 = .ok (.istore 7, 2) := by decide +kernel
theorem d_129_7 : decode (mth 129).2.1 7 = .ok (.iconst 0, 1) := by decide +kernel
theorem d_129_8 : decode (mth 129).2.1 8 = .ok (.istore 8, 2) := by decide +kernel
theorem d_129_10 : decode (mth 129).2.1 10 = .ok (.iconst 0, 1) := by decide +kernel
theorem d_129_11 : decode (mth 129).2.1 11 = .ok (.istore 9, 2) := by decide +kernel
theorem d_129_13 : decode (mth 129).2.1 13 = .ok (.iload 9, 2) := by decide +kernel
theorem d_129_15 : decode (mth 129).2.1 15 = .ok (.iload_n 2, 1) := by decide +kernel
theorem d_129_16 : decode (mth 129).2.1 16 = .ok (.if_icmp .gt 62, 3) := by decide +kernel
theorem d_129_19 : decode (mth 129).2.1 19 = .ok (.iload 6, 2) := by decide +kernel
theorem d_129_21 : decode (mth 129).2.1 21 = .ok (.aload_n 0, 1) := by decide +kernel
theorem d_129_22 : decode (mth 129).2.1 22 = .ok (.iload 9, 2) := by decide +kernel
theorem d_129_24 : decode (mth 129).2.1 24 = .ok (.iload 7, 2) := by decide +kernel
theorem d_129_26 : decode (mth 129).2.1 26 = .ok (.iload 8, 2) := by decide +kernel
theorem d_129_28 : decode (mth 129).2.1 28 = .ok (.invokevirtual 75, 3) := by decide +kernel
theorem d_129_31 : decode (mth 129).2.1 31 = .ok (.ior, 1) := by decide +kernel
theorem d_129_32 : decode (mth 129).2.1 32 = .ok (.istore 6, 2) := by decide +kernel
theorem d_129_34 : decode (mth 129).2.1 34 = .ok (.bipush 99, 2) := by decide +kernel
theorem d_129_36 : decode (mth 129).2.1 36 = .ok (.iload 7, 2) := by decide +kernel
theorem d_129_38 : decode (mth 129).2.1 38 = .ok (.iload_n 3, 1) := by decide +kernel
theorem d_129_39 : decode (mth 129).2.1 39 = .ok (.aload_n 1, 1) := by decide +kernel
theorem d_129_40 : decode (mth 129).2.1 40 = .ok (.iload 9, 2) := by decide +kernel
theorem d_129_42 : decode (mth 129).2.1 42 = .ok (.invokevirtual 79, 3) := by decide +kernel
theorem d_129_45 : decode (mth 129).2.1 45 = .ok (.iload 7, 2) := by decide +kernel
theorem d_129_47 : decode (mth 129).2.1 47 = .ok (.iload 9, 2) := by decide +kernel
theorem d_129_49 : decode (mth 129).2.1 49 = .ok (.invokestatic 84, 3) := by decide +kernel
theorem d_129_52 : decode (mth 129).2.1 52 = .ok (.iadd, 1) := by decide +kernel
theorem d_129_53 : decode (mth 129).2.1 53 = .ok (.invokestatic 88, 3) := by decide +kernel
theorem d_129_56 : decode (mth 129).2.1 56 = .ok (.istore 7, 2) := by decide +kernel
theorem d_129_58 : decode (mth 129).2.1 58 = .ok (.iload 8, 2) := by decide +kernel
theorem d_129_60 : decode (mth 129).2.1 60 = .ok (.iload_n 3, 1) := by decide +kernel
theorem d_129_61 : decode (mth 129).2.1 61 = .ok (.iload 4, 2) := by decide +kernel
theorem d_129_63 : decode (mth 129).2.1 63 = .ok (.iload 7, 2) := by decide +kernel
theorem d_129_65 : decode (mth 129).2.1 65 = .ok (.iconst 0, 1) := by decide +kernel
theorem d_129_66 : decode (mth 129).2.1 66 = .ok (.invokestatic 91, 3) := by decide +kernel
theorem d_129_69 : decode (mth 129).2.1 69 = .ok (.iadd, 1) := by decide +kernel
theorem d_129_70 : decode (mth 129).2.1 70 = .ok (.istore 8, 2) := by decide +kernel
theorem d_129_72 : decode (mth 129).2.1 72 = .ok (.iinc 9 1, 3) := by decide +kernel
theorem d_129_75 : decode (mth 129).2.1 75 = .ok (.goto (-62), 3) := by decide +kernel
theorem d_129_78 : decode (mth 129).2.1 78 = .ok (.iload 6, 2) := by decide +kernel
theorem d_129_80 : decode (mth 129).2.1 80 = .ok (.ireturn, 1) := by decide +kernel
/-! 130 PlayedTruth$Strangers.missedBehind(III)I -/
theorem d_130_0 : decode (mth 130).2.1 0 = .ok (.iconst 0, 1) := by decide +kernel
theorem d_130_1 : decode (mth 130).2.1 1 = .ok (.istore 4, 2) := by decide +kernel
theorem d_130_3 : decode (mth 130).2.1 3 = .ok (.iconst 0, 1) := by decide +kernel
theorem d_130_4 : decode (mth 130).2.1 4 = .ok (.istore 5, 2) := by decide +kernel
theorem d_130_6 : decode (mth 130).2.1 6 = .ok (.iload 5, 2) := by decide +kernel
theorem d_130_8 : decode (mth 130).2.1 8 = .ok (.aload_n 0, 1) := by decide +kernel
theorem d_130_9 : decode (mth 130).2.1 9 = .ok (.getfield 24, 3) := by decide +kernel
theorem d_130_12 : decode (mth 130).2.1 12 = .ok (.if_icmp .ge 73, 3) := by decide +kernel
theorem d_130_15 : decode (mth 130).2.1 15 = .ok (.aload_n 0, 1) := by decide +kernel
theorem d_130_16 : decode (mth 130).2.1 16 = .ok (.getfield 11, 3) := by decide +kernel
theorem d_130_19 : decode (mth 130).2.1 19 = .ok (.iload 5, 2) := by decide +kernel
theorem d_130_21 : decode (mth 130).2.1 21 = .ok (.iaload, 1) := by decide +kernel
theorem d_130_22 : decode (mth 130).2.1 22 = .ok (.iload_n 1, 1) := by decide +kernel
theorem d_130_23 : decode (mth 130).2.1 23 = .ok (.if_icmp .eq 6, 3) := by decide +kernel
theorem d_130_26 : decode (mth 130).2.1 26 = .ok (.goto 53, 3) := by decide +kernel
theorem d_130_29 : decode (mth 130).2.1 29 = .ok (.aload_n 0, 1) := by decide +kernel
theorem d_130_30 : decode (mth 130).2.1 30 = .ok (.getfield 15, 3) := by decide +kernel
theorem d_130_33 : decode (mth 130).2.1 33 = .ok (.iload 5, 2) := by decide +kernel
theorem d_130_35 : decode (mth 130).2.1 35 = .ok (.iaload, 1) := by decide +kernel
theorem d_130_36 : decode (mth 130).2.1 36 = .ok (.ifCond .ne 7, 3) := by decide +kernel
theorem d_130_39 : decode (mth 130).2.1 39 = .ok (.iload_n 2, 1) := by decide +kernel
theorem d_130_40 : decode (mth 130).2.1 40 = .ok (.goto 4, 3) := by decide +kernel
theorem d_130_43 : decode (mth 130).2.1 43 = .ok (.iload_n 3, 1) := by decide +kernel
theorem d_130_44 : decode (mth 130).2.1 44 = .ok (.istore 6, 2) := by decide +kernel
theorem d_130_46 : decode (mth 130).2.1 46 = .ok (.iload 6, 2) := by decide +kernel
theorem d_130_48 : decode (mth 130).2.1 48 = .ok (.aload_n 0, 1) := by decide +kernel
theorem d_130_49 : decode (mth 130).2.1 49 = .ok (.getfield 18, 3) := by decide +kernel
theorem d_130_52 : decode (mth 130).2.1 52 = .ok (.iload 5, 2) := by decide +kernel
theorem d_130_54 : decode (mth 130).2.1 54 = .ok (.iaload, 1) := by decide +kernel
theorem d_130_55 : decode (mth 130).2.1 55 = .ok (.if_icmp .lt 15, 3) := by decide +kernel
theorem d_130_58 : decode (mth 130).2.1 58 = .ok (.iload 6, 2) := by decide +kernel
theorem d_130_60 : decode (mth 130).2.1 60 = .ok (.aload_n 0, 1) := by decide +kernel
theorem d_130_61 : decode (mth 130).2.1 61 = .ok (.getfield 21, 3) := by decide +kernel
theorem d_130_64 : decode (mth 130).2.1 64 = .ok (.iload 5, 2) := by decide +kernel
theorem d_130_66 : decode (mth 130).2.1 66 = .ok (.iaload, 1) := by decide +kernel
theorem d_130_67 : decode (mth 130).2.1 67 = .ok (.if_icmp .le 12, 3) := by decide +kernel
theorem d_130_70 : decode (mth 130).2.1 70 = .ok (.iload 4, 2) := by decide +kernel
theorem d_130_72 : decode (mth 130).2.1 72 = .ok (.iconst 1, 1) := by decide +kernel
theorem d_130_73 : decode (mth 130).2.1 73 = .ok (.iload 5, 2) := by decide +kernel
theorem d_130_75 : decode (mth 130).2.1 75 = .ok (.ishl, 1) := by decide +kernel
theorem d_130_76 : decode (mth 130).2.1 76 = .ok (.ior, 1) := by decide +kernel
theorem d_130_77 : decode (mth 130).2.1 77 = .ok (.istore 4, 2) := by decide +kernel
theorem d_130_79 : decode (mth 130).2.1 79 = .ok (.iinc 5 1, 3) := by decide +kernel
theorem d_130_82 : decode (mth 130).2.1 82 = .ok (.goto (-76), 3) := by decide +kernel
theorem d_130_85 : decode (mth 130).2.1 85 = .ok (.iload 4, 2) := by decide +kernel
theorem d_130_87 : decode (mth 130).2.1 87 = .ok (.ireturn, 1) := by decide +kernel
/-! 131 PlayedTruth$Strangers.countFit(III)V -/
theorem d_131_0 : decode (mth 131).2.1 0 = .ok (.aload_n 0, 1) := by decide +kernel
theorem d_131_1 : decode (mth 131).2.1 1 = .ok (.dup, 1) := by decide +kernel
theorem d_131_2 : decode (mth 131).2.1 2 = .ok (.getfield 28, 3) := by decide +kernel
theorem d_131_5 : decode (mth 131).2.1 5 = .ok (.iconst 1, 1) := by decide +kernel
theorem d_131_6 : decode (mth 131).2.1 6 = .ok (.iadd, 1) := by decide +kernel
theorem d_131_7 : decode (mth 131).2.1 7 = .ok (.putfield 28, 3) := by decide +kernel
theorem d_131_10 : decode (mth 131).2.1 10 = .ok (.aload_n 0, 1) := by decide +kernel
theorem d_131_11 : decode (mth 131).2.1 11 = .ok (.getfield 28, 3) := by decide +kernel
theorem d_131_14 : decode (mth 131).2.1 14 = .ok (.iconst 1, 1) := by decide +kernel
theorem d_131_15 : decode (mth 131).2.1 15 = .ok (.if_icmp .le 4, 3) := by decide +kernel
theorem d_131_18 : decode (mth 131).2.1 18 = .ok (.return_, 1) := by decide +kernel
theorem d_131_19 : decode (mth 131).2.1 19 = .ok (.aload_n 0, 1) := by decide +kernel
theorem d_131_20 : decode (mth 131).2.1 20 = .ok (.iload_n 1, 1) := by decide +kernel
theorem d_131_21 : decode (mth 131).2.1 21 = .ok (.putfield 31, 3) := by decide +kernel
theorem d_131_24 : decode (mth 131).2.1 24 = .ok (.aload_n 0, 1) := by decide +kernel
theorem d_131_25 : decode (mth 131).2.1 25 = .ok (.iload_n 2, 1) := by decide +kernel
theorem d_131_26 : decode (mth 131).2.1 26 = .ok (.putfield 34, 3) := by decide +kernel
theorem d_131_29 : decode (mth 131).2.1 29 = .ok (.aload_n 0, 1) := by decide +kernel
theorem d_131_30 : decode (mth 131).2.1 30 = .ok (.iload_n 3, 1) := by decide +kernel
theorem d_131_31 : decode (mth 131).2.1 31 = .ok (.putfield 37, 3) := by decide +kernel
theorem d_131_34 : decode (mth 131).2.1 34 = .ok (.return_, 1) := by decide +kernel
/-! 173 PlayedTruth$Strangers.copyFrom(LPlayedTruth$Strangers;)V -/
theorem d_173_0 : decode (mth 173).2.1 0 = .ok (.aload_n 1, 1) := by decide +kernel
theorem d_173_1 : decode (mth 173).2.1 1 = .ok (.getfield 11, 3) := by decide +kernel
theorem d_173_4 : decode (mth 173).2.1 4 = .ok (.iconst 0, 1) := by decide +kernel
theorem d_173_5 : decode (mth 173).2.1 5 = .ok (.aload_n 0, 1) := by decide +kernel
theorem d_173_6 : decode (mth 173).2.1 6 = .ok (.getfield 11, 3) := by decide +kernel
theorem d_173_9 : decode (mth 173).2.1 9 = .ok (.iconst 0, 1) := by decide +kernel
theorem d_173_10 : decode (mth 173).2.1 10 = .ok (.bipush 6, 2) := by decide +kernel
theorem d_173_12 : decode (mth 173).2.1 12 = .ok (.invokestatic 43, 3) := by decide +kernel
theorem d_173_15 : decode (mth 173).2.1 15 = .ok (.aload_n 1, 1) := by decide +kernel
theorem d_173_16 : decode (mth 173).2.1 16 = .ok (.getfield 15, 3) := by decide +kernel
theorem d_173_19 : decode (mth 173).2.1 19 = .ok (.iconst 0, 1) := by decide +kernel
theorem d_173_20 : decode (mth 173).2.1 20 = .ok (.aload_n 0, 1) := by decide +kernel
theorem d_173_21 : decode (mth 173).2.1 21 = .ok (.getfield 15, 3) := by decide +kernel
theorem d_173_24 : decode (mth 173).2.1 24 = .ok (.iconst 0, 1) := by decide +kernel
theorem d_173_25 : decode (mth 173).2.1 25 = .ok (.bipush 6, 2) := by decide +kernel
theorem d_173_27 : decode (mth 173).2.1 27 = .ok (.invokestatic 43, 3) := by decide +kernel
theorem d_173_30 : decode (mth 173).2.1 30 = .ok (.aload_n 1, 1) := by decide +kernel
theorem d_173_31 : decode (mth 173).2.1 31 = .ok (.getfield 18, 3) := by decide +kernel
theorem d_173_34 : decode (mth 173).2.1 34 = .ok (.iconst 0, 1) := by decide +kernel
theorem d_173_35 : decode (mth 173).2.1 35 = .ok (.aload_n 0, 1) := by decide +kernel
theorem d_173_36 : decode (mth 173).2.1 36 = .ok (.getfield 18, 3) := by decide +kernel
theorem d_173_39 : decode (mth 173).2.1 39 = .ok (.iconst 0, 1) := by decide +kernel
theorem d_173_40 : decode (mth 173).2.1 40 = .ok (.bipush 6, 2) := by decide +kernel
theorem d_173_42 : decode (mth 173).2.1 42 = .ok (.invokestatic 43, 3) := by decide +kernel
theorem d_173_45 : decode (mth 173).2.1 45 = .ok (.aload_n 1, 1) := by decide +kernel
theorem d_173_46 : decode (mth 173).2.1 46 = .ok (.getfield 21, 3) := by decide +kernel
theorem d_173_49 : decode (mth 173).2.1 49 = .ok (.iconst 0, 1) := by decide +kernel
theorem d_173_50 : decode (mth 173).2.1 50 = .ok (.aload_n 0, 1) := by decide +kernel
theorem d_173_51 : decode (mth 173).2.1 51 = .ok (.getfield 21, 3) := by decide +kernel
theorem d_173_54 : decode (mth 173).2.1 54 = .ok (.iconst 0, 1) := by decide +kernel
theorem d_173_55 : decode (mth 173).2.1 55 = .ok (.bipush 6, 2) := by decide +kernel
theorem d_173_57 : decode (mth 173).2.1 57 = .ok (.invokestatic 43, 3) := by decide +kernel
theorem d_173_60 : decode (mth 173).2.1 60 = .ok (.aload_n 0, 1) := by decide +kernel
theorem d_173_61 : decode (mth 173).2.1 61 = .ok (.aload_n 1, 1) := by decide +kernel
theorem d_173_62 : decode (mth 173).2.1 62 = .ok (.getfield 24, 3) := by decide +kernel
theorem d_173_65 : decode (mth 173).2.1 65 = .ok (.putfield 24, 3) := by decide +kernel
theorem d_173_68 : decode (mth 173).2.1 68 = .ok (.return_, 1) := by decide +kernel
