/-! 176 PlayedTruthModel.scene(IIII)I -/
theorem d_176_0 : decode (mth 176).2.1 0 = .ok (.iload_n 1, 1) := by decide +kernel
theorem d_176_1 : decode (mth 176).2.1 1 = .ok (.i2l, 1) := by decide +kernel
theorem d_176_2 : decode (mth 176).2.1 2 = .ok (.lconst 1, 1) := by decide +kernel
theorem d_176_3 : decode (mth 176).2.1 3 = .ok (.ldc2_w 138, 3) := by decide +kernel
theorem d_176_6 : decode (mth 176).2.1 6 = .ok (.invokestatic 58, 3) := by decide +kernel
theorem d_176_9 : decode (mth 176).2.1 9 = .ok (.ifCond .eq 40, 3) := by decide +kernel
theorem d_176_12 : decode (mth 176).2.1 12 = .ok (.iload_n 2, 1) := by decide +kernel
theorem d_176_13 : decode (mth 176).2.1 13 = .ok (.i2l, 1) := by decide +kernel
theorem d_176_14 : decode (mth 176).2.1 14 = .ok (.lconst 0, 1) := by decide +kernel
theorem d_176_15 : decode (mth 176).2.1 15 = .ok (.ldc2_w 140, 3) := by decide +kernel
theorem d_176_18 : decode (mth 176).2.1 18 = .ok (.invokestatic 58, 3) := by decide +kernel
theorem d_176_21 : decode (mth 176).2.1 21 = .ok (.ifCond .eq 28, 3) := by decide +kernel
theorem d_176_24 : decode (mth 176).2.1 24 = .ok (.iload_n 3, 1) := by decide +kernel
theorem d_176_25 : decode (mth 176).2.1 25 = .ok (.i2l, 1) := by decide +kernel
theorem d_176_26 : decode (mth 176).2.1 26 = .ok (.lconst 0, 1) := by decide +kernel
theorem d_176_27 : decode (mth 176).2.1 27 = .ok (.ldc2_w 142, 3) := by decide +kernel
theorem d_176_30 : decode (mth 176).2.1 30 = .ok (.invokestatic 58, 3) := by decide +kernel
theorem d_176_33 : decode (mth 176).2.1 33 = .ok (.ifCond .eq 16, 3) := by decide +kernel
theorem d_176_36 : decode (mth 176).2.1 36 = .ok (.iload 4, 2) := by decide +kernel
theorem d_176_38 : decode (mth 176).2.1 38 = .ok (.i2l, 1) := by decide +kernel
theorem d_176_39 : decode (mth 176).2.1 39 = .ok (.lconst 0, 1) := by decide +kernel
theorem d_176_40 : decode (mth 176).2.1 40 = .ok (.ldc2_w 138, 3) := by decide +kernel
theorem d_176_43 : decode (mth 176).2.1 43 = .ok (.invokestatic 58, 3) := by decide +kernel
theorem d_176_46 : decode (mth 176).2.1 46 = .ok (.ifCond .ne 5, 3) := by decide +kernel
theorem d_176_49 : decode (mth 176).2.1 49 = .ok (.iconst (-1), 1) := by decide +kernel
theorem d_176_50 : decode (mth 176).2.1 50 = .ok (.ireturn, 1) := by decide +kernel
theorem d_176_51 : decode (mth 176).2.1 51 = .ok (.aload_n 0, 1) := by decide +kernel
theorem d_176_52 : decode (mth 176).2.1 52 = .ok (.getfield 7, 3) := by decide +kernel
theorem d_176_55 : decode (mth 176).2.1 55 = .ok (.iconst 0, 1) := by decide +kernel
theorem d_176_56 : decode (mth 176).2.1 56 = .ok (.iaload, 1) := by decide +kernel
theorem d_176_57 : decode (mth 176).2.1 57 = .ok (.bipush 6, 2) := by decide +kernel
theorem d_176_59 : decode (mth 176).2.1 59 = .ok (.if_icmp .ne 6, 3) := by decide +kernel
theorem d_176_62 : decode (mth 176).2.1 62 = .ok (.bipush (-2), 2) := by decide +kernel
theorem d_176_64 : decode (mth 176).2.1 64 = .ok (.ireturn, 1) := by decide +kernel
theorem d_176_65 : decode (mth 176).2.1 65 = .ok (.aload_n 0, 1) := by decide +kernel
theorem d_176_66 : decode (mth 176).2.1 66 = .ok (.getfield 7, 3) := by decide +kernel
theorem d_176_69 : decode (mth 176).2.1 69 = .ok (.iconst 0, 1) := by decide +kernel
theorem d_176_70 : decode (mth 176).2.1 70 = .ok (.iaload, 1) := by decide +kernel
theorem d_176_71 : decode (mth 176).2.1 71 = .ok (.istore 5, 2) := by decide +kernel
theorem d_176_73 : decode (mth 176).2.1 73 = .ok (.aload_n 0, 1) := by decide +kernel
theorem d_176_74 : decode (mth 176).2.1 74 = .ok (.iload 5, 2) := by decide +kernel
theorem d_176_76 : decode (mth 176).2.1 76 = .ok (.iconst 0, 1) := by decide +kernel
theorem d_176_77 : decode (mth 176).2.1 77 = .ok (.iload_n 1, 1) := by decide +kernel
theorem d_176_78 : decode (mth 176).2.1 78 = .ok (.invokevirtual 114, 3) := by decide +kernel
theorem d_176_81 : decode (mth 176).2.1 81 = .ok (.aload_n 0, 1) := by decide +kernel
theorem d_176_82 : decode (mth 176).2.1 82 = .ok (.iload 5, 2) := by decide +kernel
theorem d_176_84 : decode (mth 176).2.1 84 = .ok (.iconst 1, 1) := by decide +kernel
theorem d_176_85 : decode (mth 176).2.1 85 = .ok (.iload_n 2, 1) := by decide +kernel
theorem d_176_86 : decode (mth 176).2.1 86 = .ok (.invokevirtual 114, 3) := by decide +kernel
theorem d_176_89 : decode (mth 176).2.1 89 = .ok (.aload_n 0, 1) := by decide +kernel
theorem d_176_90 : decode (mth 176).2.1 90 = .ok (.iload 5, 2) := by decide +kernel
theorem d_176_92 : decode (mth 176).2.1 92 = .ok (.iconst 2, 1) := by decide +kernel
theorem d_176_93 : decode (mth 176).2.1 93 = .ok (.iload_n 3, 1) := by decide +kernel
theorem d_176_94 : decode (mth 176).2.1 94 = .ok (.invokevirtual 114, 3) := by decide +kernel
theorem d_176_97 : decode (mth 176).2.1 97 = .ok (.aload_n 0, 1) := by decide +kernel
theorem d_176_98 : decode (mth 176).2.1 98 = .ok (.iload 5, 2) := by decide +kernel
theorem d_176_100 : decode (mth 176).2.1 100 = .ok (.iconst 3, 1) := by decide +kernel
theorem d_176_101 : decode (mth 176).2.1 101 = .ok (.iload 4, 2) := by decide +kernel
theorem d_176_103 : decode (mth 176).2.1 103 = .ok (.invokevirtual 114, 3) := by decide +kernel
theorem d_176_106 : decode (mth 176).2.1 106 = .ok (.aload_n 0, 1) := by decide +kernel
theorem d_176_107 : decode (mth 176).2.1 107 = .ok (.iload 5, 2) := by decide +kernel
theorem d_176_109 : decode (mth 176).2.1 109 = .ok (.iconst 4, 1) := by decide +kernel
theorem d_176_110 : decode (mth 176).2.1 110 = .ok (.iconst 0, 1) := by decide +kernel
theorem d_176_111 : decode (mth 176).2.1 111 = .ok (.invokevirtual 114, 3) := by decide +kernel
theorem d_176_114 : decode (mth 176).2.1 114 = .ok (.aload_n 0, 1) := by decide +kernel
theorem d_176_115 : decode (mth 176).2.1 115 = .ok (.getfield 7, 3) := by decide +kernel
theorem d_176_118 : decode (mth 176).2.1 118 = .ok (.iconst 0, 1) := by decide +kernel
theorem d_176_119 : decode (mth 176).2.1 119 = .ok (.dup2, 1) := by decide +kernel
theorem d_176_120 : decode (mth 176).2.1 120 = .ok (.iaload, 1) := by decide +kernel
theorem d_176_121 : decode (mth 176).2.1 121 = .ok (.iconst 1, 1) := by decide +kernel
theorem d_176_122 : decode (mth 176).2.1 122 = .ok (.iadd, 1) := by decide +kernel
theorem d_176_123 : decode (mth 176).2.1 123 = .ok (.iastore, 1) := by decide +kernel
theorem d_176_124 : decode (mth 176).2.1 124 = .ok (.iload 5, 2) := by decide +kernel
theorem d_176_126 : decode (mth 176).2.1 126 = .ok (.ireturn, 1) := by decide +kernel
/-! 177 PlayedTruthModel.in(JJJ)Z -/
theorem d_177_0 : decode (mth 177).2.1 0 = .ok (.lload_n 0, 1) := by decide +kernel
theorem d_177_1 : decode (mth 177).2.1 1 = .ok (.lload_n 2, 1) := by decide +kernel
theorem d_177_2 : decode (mth 177).2.1 2 = .ok (.lcmp, 1) := by decide +kernel
theorem d_177_3 : decode (mth 177).2.1 3 = .ok (.ifCond .lt 14, 3) := by decide +kernel
theorem d_177_6 : decode (mth 177).2.1 6 = .ok (.lload_n 0, 1) := by decide +kernel
theorem d_177_7 : decode (mth 177).2.1 7 = .ok (.lload 4, 2) := by decide +kernel
theorem d_177_9 : decode (mth 177).2.1 9 = .ok (.lcmp, 1) := by decide +kernel
theorem d_177_10 : decode (mth 177).2.1 10 = .ok (.ifCond .gt 7, 3) := by decide +kernel
theorem d_177_13 : decode (mth 177).2.1 13 = .ok (.iconst 1, 1) := by decide +kernel
theorem d_177_14 : decode (mth 177).2.1 14 = .ok (.goto 4, 3) := by decide +kernel
theorem d_177_17 : decode (mth 177).2.1 17 = .ok (.iconst 0, 1) := by decide +kernel
theorem d_177_18 : decode (mth 177).2.1 18 = .ok (.ireturn, 1) := by decide +kernel
/-! 178 PlayedTruthModel.sets(III)V -/
theorem d_178_0 : decode (mth 178).2.1 0 = .ok (.aload_n 0, 1) := by decide +kernel
theorem d_178_1 : decode (mth 178).2.1 1 = .ok (.getfield 7, 3) := by decide +kernel
theorem d_178_4 : decode (mth 178).2.1 4 = .ok (.bipush 35, 2) := by decide +kernel
theorem d_178_6 : decode (mth 178).2.1 6 = .ok (.iconst 5, 1) := by decide +kernel
theorem d_178_7 : decode (mth 178).2.1 7 = .ok (.iload_n 1, 1) := by decide +kernel
theorem d_178_8 : decode (mth 178).2.1 8 = .ok (.imul, 1) := by decide +kernel
theorem d_178_9 : decode (mth 178).2.1 9 = .ok (.iadd, 1) := by decide +kernel
theorem d_178_10 : decode (mth 178).2.1 10 = .ok (.iload_n 2, 1) := by decide +kernel
theorem d_178_11 : decode (mth 178).2.1 11 = .ok (.iadd, 1) := by decide +kernel
theorem d_178_12 : decode (mth 178).2.1 12 = .ok (.iload_n 3, 1) := by decide +kernel
theorem d_178_13 : decode (mth 178).2.1 13 = .ok (.iastore, 1) := by decide +kernel
theorem d_178_14 : decode (mth 178).2.1 14 = .ok (.return_, 1) := by decide +kernel
/-! 179 PlayedTruthModel.sceneOf(II)I -/
theorem d_179_0 : decode (mth 179).2.1 0 = .ok (.aload_n 0, 1) := by decide +kernel
theorem d_179_1 : decode (mth 179).2.1 1 = .ok (.iload_n 1, 1) := by decide +kernel
theorem d_179_2 : decode (mth 179).2.1 2 = .ok (.invokevirtual 144, 3) := by decide +kernel
theorem d_179_5 : decode (mth 179).2.1 5 = .ok (.ifCond .eq 15, 3) := by decide +kernel
theorem d_179_8 : decode (mth 179).2.1 8 = .ok (.iload_n 2, 1) := by decide +kernel
theorem d_179_9 : decode (mth 179).2.1 9 = .ok (.i2l, 1) := by decide +kernel
theorem d_179_10 : decode (mth 179).2.1 10 = .ok (.lconst 0, 1) := by decide +kernel
theorem d_179_11 : decode (mth 179).2.1 11 = .ok (.ldc2_w 142, 3) := by decide +kernel
theorem d_179_14 : decode (mth 179).2.1 14 = .ok (.invokestatic 58, 3) := by decide +kernel
theorem d_179_17 : decode (mth 179).2.1 17 = .ok (.ifCond .ne 5, 3) := by decide +kernel
theorem d_179_20 : decode (mth 179).2.1 20 = .ok (.iconst (-1), 1) := by decide +kernel
theorem d_179_21 : decode (mth 179).2.1 21 = .ok (.ireturn, 1) := by decide +kernel
theorem d_179_22 : decode (mth 179).2.1 22 = .ok (.iload_n 2, 1) := by decide +kernel
theorem d_179_23 : decode (mth 179).2.1 23 = .ok (.tableswitch 71 5 9 #[33, 39, 45, 51, 65], 33) := by decide +kernel
theorem d_179_56 : decode (mth 179).2.1 56 = .ok (.aload_n 0, 1) := by decide +kernel
theorem d_179_57 : decode (mth 179).2.1 57 = .ok (.iload_n 1, 1) := by decide +kernel
theorem d_179_58 : decode (mth 179).2.1 58 = .ok (.invokevirtual 111, 3) := by decide +kernel
theorem d_179_61 : decode (mth 179).2.1 61 = .ok (.ireturn, 1) := by decide +kernel
theorem d_179_62 : decode (mth 179).2.1 62 = .ok (.aload_n 0, 1) := by decide +kernel
theorem d_179_63 : decode (mth 179).2.1 63 = .ok (.iload_n 1, 1) := by decide +kernel
theorem d_179_64 : decode (mth 179).2.1 64 = .ok (.invokevirtual 121, 3) := by decide +kernel
theorem d_179_67 : decode (mth 179).2.1 67 = .ok (.ireturn, 1) := by decide +kernel
theorem d_179_68 : decode (mth 179).2.1 68 = .ok (.aload_n 0, 1) := by decide +kernel
theorem d_179_69 : decode (mth 179).2.1 69 = .ok (.iload_n 1, 1) := by decide +kernel
theorem d_179_70 : decode (mth 179).2.1 70 = .ok (.invokevirtual 89, 3) := by decide +kernel
theorem d_179_73 : decode (mth 179).2.1 73 = .ok (.ireturn, 1) := by decide +kernel
theorem d_179_74 : decode (mth 179).2.1 74 = .ok (.aload_n 0, 1) := by decide +kernel
theorem d_179_75 : decode (mth 179).2.1 75 = .ok (.iload_n 1, 1) := by decide +kernel
theorem d_179_76 : decode (mth 179).2.1 76 = .ok (.invokevirtual 124, 3) := by decide +kernel
theorem d_179_79 : decode (mth 179).2.1 79 = .ok (.ifCond .eq 7, 3) := by decide +kernel
theorem d_179_82 : decode (mth 179).2.1 82 = .ok (.iconst 1, 1) := by decide +kernel
theorem d_179_83 : decode (mth 179).2.1 83 = .ok (.goto 4, 3) := by decide +kernel
theorem d_179_86 : decode (mth 179).2.1 86 = .ok (.iconst 0, 1) := by decide +kernel
theorem d_179_87 : decode (mth 179).2.1 87 = .ok (.ireturn, 1) := by decide +kernel
theorem d_179_88 : decode (mth 179).2.1 88 = .ok (.aload_n 0, 1) := by decide +kernel
theorem d_179_89 : decode (mth 179).2.1 89 = .ok (.iload_n 1, 1) := by decide +kernel
theorem d_179_90 : decode (mth 179).2.1 90 = .ok (.invokevirtual 108, 3) := by decide +kernel
theorem d_179_93 : decode (mth 179).2.1 93 = .ok (.ireturn, 1) := by decide +kernel
theorem d_179_94 : decode (mth 179).2.1 94 = .ok (.aload_n 0, 1) := by decide +kernel
theorem d_179_95 : decode (mth 179).2.1 95 = .ok (.iload_n 1, 1) := by decide +kernel
theorem d_179_96 : decode (mth 179).2.1 96 = .ok (.iload_n 2, 1) := by decide +kernel
theorem d_179_97 : decode (mth 179).2.1 97 = .ok (.invokevirtual 77, 3) := by decide +kernel
theorem d_179_100 : decode (mth 179).2.1 100 = .ok (.ireturn, 1) := by decide +kernel
/-! 180 PlayedTruthModel.isScene(I)Z -/
theorem d_180_0 : decode (mth 180).2.1 0 = .ok (.iload_n 1, 1) := by decide +kernel
theorem d_180_1 : decode (mth 180).2.1 1 = .ok (.i2l, 1) := by decide +kernel
theorem d_180_2 : decode (mth 180).2.1 2 = .ok (.lconst 0, 1) := by decide +kernel
theorem d_180_3 : decode (mth 180).2.1 3 = .ok (.aload_n 0, 1) := by decide +kernel
theorem d_180_4 : decode (mth 180).2.1 4 = .ok (.getfield 7, 3) := by decide +kernel
theorem d_180_7 : decode (mth 180).2.1 7 = .ok (.iconst 0, 1) := by decide +kernel
theorem d_180_8 : decode (mth 180).2.1 8 = .ok (.iaload, 1) := by decide +kernel
theorem d_180_9 : decode (mth 180).2.1 9 = .ok (.iconst 1, 1) := by decide +kernel
theorem d_180_10 : decode (mth 180).2.1 10 = .ok (.isub, 1) := by decide +kernel
theorem d_180_11 : decode (mth 180).2.1 11 = .ok (.i2l, 1) := by decide +kernel
theorem d_180_12 : decode (mth 180).2.1 12 = .ok (.invokestatic 58, 3) := by decide +kernel
theorem d_180_15 : decode (mth 180).2.1 15 = .ok (.ireturn, 1) := by decide +kernel
/-! 181 PlayedTruthModel.learns(I)I -/
theorem d_181_0 : decode (mth 181).2.1 0 = .ok (.aload_n 0, 1) := by decide +kernel
theorem d_181_1 : decode (mth 181).2.1 1 = .ok (.iload_n 1, 1) := by decide +kernel
theorem d_181_2 : decode (mth 181).2.1 2 = .ok (.iconst 0, 1) := by decide +kernel
theorem d_181_3 : decode (mth 181).2.1 3 = .ok (.invokevirtual 77, 3) := by decide +kernel
theorem d_181_6 : decode (mth 181).2.1 6 = .ok (.aload_n 0, 1) := by decide +kernel
theorem d_181_7 : decode (mth 181).2.1 7 = .ok (.invokevirtual 81, 3) := by decide +kernel
theorem d_181_10 : decode (mth 181).2.1 10 = .ok (.aload_n 0, 1) := by decide +kernel
theorem d_181_11 : decode (mth 181).2.1 11 = .ok (.iload_n 1, 1) := by decide +kernel
theorem d_181_12 : decode (mth 181).2.1 12 = .ok (.iconst 1, 1) := by decide +kernel
theorem d_181_13 : decode (mth 181).2.1 13 = .ok (.invokevirtual 77, 3) := by decide +kernel
theorem d_181_16 : decode (mth 181).2.1 16 = .ok (.aload_n 0, 1) := by decide +kernel
theorem d_181_17 : decode (mth 181).2.1 17 = .ok (.getfield 7, 3) := by decide +kernel
theorem d_181_20 : decode (mth 181).2.1 20 = .ok (.iconst 1, 1) := by decide +kernel
theorem d_181_21 : decode (mth 181).2.1 21 = .ok (.iaload, 1) := by decide +kernel
theorem d_181_22 : decode (mth 181).2.1 22 = .ok (.invokestatic 85, 3) := by decide +kernel
theorem d_181_25 : decode (mth 181).2.1 25 = .ok (.iconst 5, 1) := by decide +kernel
theorem d_181_26 : decode (mth 181).2.1 26 = .ok (.aload_n 0, 1) := by decide +kernel
theorem d_181_27 : decode (mth 181).2.1 27 = .ok (.iload_n 1, 1) := by decide +kernel
theorem d_181_28 : decode (mth 181).2.1 28 = .ok (.invokevirtual 89, 3) := by decide +kernel
theorem d_181_31 : decode (mth 181).2.1 31 = .ok (.imul, 1) := by decide +kernel
theorem d_181_32 : decode (mth 181).2.1 32 = .ok (.iadd, 1) := by decide +kernel
theorem d_181_33 : decode (mth 181).2.1 33 = .ok (.aload_n 0, 1) := by decide +kernel
theorem d_181_34 : decode (mth 181).2.1 34 = .ok (.getfield 7, 3) := by decide +kernel
theorem d_181_37 : decode (mth 181).2.1 37 = .ok (.bipush 29, 2) := by decide +kernel
theorem d_181_39 : decode (mth 181).2.1 39 = .ok (.aload_n 0, 1) := by decide +kernel
theorem d_181_40 : decode (mth 181).2.1 40 = .ok (.iload_n 1, 1) := by decide +kernel
theorem d_181_41 : decode (mth 181).2.1 41 = .ok (.iconst 3, 1) := by decide +kernel
theorem d_181_42 : decode (mth 181).2.1 42 = .ok (.invokevirtual 77, 3) := by decide +kernel
theorem d_181_45 : decode (mth 181).2.1 45 = .ok (.iadd, 1) := by decide +kernel
theorem d_181_46 : decode (mth 181).2.1 46 = .ok (.iaload, 1) := by decide +kernel
theorem d_181_47 : decode (mth 181).2.1 47 = .ok (.isub, 1) := by decide +kernel
theorem d_181_48 : decode (mth 181).2.1 48 = .ok (.iconst 0, 1) := by decide +kernel
theorem d_181_49 : decode (mth 181).2.1 49 = .ok (.sipush 361, 3) := by decide +kernel
theorem d_181_52 : decode (mth 181).2.1 52 = .ok (.invokestatic 73, 3) := by decide +kernel
theorem d_181_55 : decode (mth 181).2.1 55 = .ok (.ireturn, 1) := by decide +kernel
/-! 182 PlayedTruthModel.of(II)I -/
theorem d_182_0 : decode (mth 182).2.1 0 = .ok (.aload_n 0, 1) := by decide +kernel
theorem d_182_1 : decode (mth 182).2.1 1 = .ok (.getfield 7, 3) := by decide +kernel
theorem d_182_4 : decode (mth 182).2.1 4 = .ok (.bipush 35, 2) := by decide +kernel
theorem d_182_6 : decode (mth 182).2.1 6 = .ok (.iconst 5, 1) := by decide +kernel
theorem d_182_7 : decode (mth 182).2.1 7 = .ok (.iload_n 1, 1) := by decide +kernel
theorem d_182_8 : decode (mth 182).2.1 8 = .ok (.imul, 1) := by decide +kernel
theorem d_182_9 : decode (mth 182).2.1 9 = .ok (.iadd, 1) := by decide +kernel
theorem d_182_10 : decode (mth 182).2.1 10 = .ok (.iload_n 2, 1) := by decide +kernel
theorem d_182_11 : decode (mth 182).2.1 11 = .ok (.iadd, 1) := by decide +kernel
theorem d_182_12 : decode (mth 182).2.1 12 = .ok (.iaload, 1) := by decide +kernel
theorem d_182_13 : decode (mth 182).2.1 13 = .ok (.ireturn, 1) := by decide +kernel
/-! 183 PlayedTruthModel.rail()I -/
theorem d_183_0 : decode (mth 183).2.1 0 = .ok (.aload_n 0, 1) := by decide +kernel
theorem d_183_1 : decode (mth 183).2.1 1 = .ok (.aload_n 0, 1) := by decide +kernel
theorem d_183_2 : decode (mth 183).2.1 2 = .ok (.getfield 7, 3) := by decide +kernel
theorem d_183_5 : decode (mth 183).2.1 5 = .ok (.iconst 1, 1) := by decide +kernel
theorem d_183_6 : decode (mth 183).2.1 6 = .ok (.iaload, 1) := by decide +kernel
theorem d_183_7 : decode (mth 183).2.1 7 = .ok (.invokevirtual 69, 3) := by decide +kernel
theorem d_183_10 : decode (mth 183).2.1 10 = .ok (.iconst 4, 1) := by decide +kernel
theorem d_183_11 : decode (mth 183).2.1 11 = .ok (.idiv, 1) := by decide +kernel
theorem d_183_12 : decode (mth 183).2.1 12 = .ok (.ireturn, 1) := by decide +kernel
/-! 184 PlayedTruthModel.houseOf(I)I -/
theorem d_184_0 : decode (mth 184).2.1 0 = .ok (.iload_n 1, 1) := by decide +kernel
theorem d_184_1 : decode (mth 184).2.1 1 = .ok (.bipush 16, 2) := by decide +kernel
theorem d_184_3 : decode (mth 184).2.1 3 = .ok (.if_icmp .ge 15, 3) := by decide +kernel
theorem d_184_6 : decode (mth 184).2.1 6 = .ok (.aload_n 0, 1) := by decide +kernel
theorem d_184_7 : decode (mth 184).2.1 7 = .ok (.getfield 7, 3) := by decide +kernel
theorem d_184_10 : decode (mth 184).2.1 10 = .ok (.bipush 7, 2) := by decide +kernel
theorem d_184_12 : decode (mth 184).2.1 12 = .ok (.iload_n 1, 1) := by decide +kernel
theorem d_184_13 : decode (mth 184).2.1 13 = .ok (.iadd, 1) := by decide +kernel
theorem d_184_14 : decode (mth 184).2.1 14 = .ok (.iaload, 1) := by decide +kernel
theorem d_184_15 : decode (mth 184).2.1 15 = .ok (.goto 4, 3) := by decide +kernel
theorem d_184_18 : decode (mth 184).2.1 18 = .ok (.iconst 0, 1) := by decide +kernel
theorem d_184_19 : decode (mth 184).2.1 19 = .ok (.ireturn, 1) := by decide +kernel
/-! 185 PlayedTruthModel.learnsBy(IIII)I -/
theorem d_185_0 : decode (mth 185).2.1 0 = .ok (.iload_n 2, 1) := by decide +kernel
theorem d_185_1 : decode (mth 185).2.1 1 = .ok (.bipush 40, 2) := by decide +kernel
theorem d_185_3 : decode (mth 185).2.1 3 = .ok (.if_icmp .le 9, 3) := by decide +kernel
theorem d_185_6 : decode (mth 185).2.1 6 = .ok (.iconst 4, 1) := by decide +kernel
theorem d_185_7 : decode (mth 185).2.1 7 = .ok (.iload_n 1, 1) := by decide +kernel
theorem d_185_8 : decode (mth 185).2.1 8 = .ok (.imul, 1) := by decide +kernel
theorem d_185_9 : decode (mth 185).2.1 9 = .ok (.goto 7, 3) := by decide +kernel
theorem d_185_12 : decode (mth 185).2.1 12 = .ok (.bipush 8, 2) := by decide +kernel
theorem d_185_14 : decode (mth 185).2.1 14 = .ok (.iload_n 1, 1) := by decide +kernel
theorem d_185_15 : decode (mth 185).2.1 15 = .ok (.imul, 1) := by decide +kernel
theorem d_185_16 : decode (mth 185).2.1 16 = .ok (.istore 4, 2) := by decide +kernel
theorem d_185_18 : decode (mth 185).2.1 18 = .ok (.iload_n 0, 1) := by decide +kernel
theorem d_185_19 : decode (mth 185).2.1 19 = .ok (.tableswitch 80 1 5 #[33, 43, 46, 57, 63], 33) := by decide +kernel
theorem d_185_52 : decode (mth 185).2.1 52 = .ok (.bipush 8, 2) := by decide +kernel
theorem d_185_54 : decode (mth 185).2.1 54 = .ok (.iload_n 1, 1) := by decide +kernel
theorem d_185_55 : decode (mth 185).2.1 55 = .ok (.imul, 1) := by decide +kernel
theorem d_185_56 : decode (mth 185).2.1 56 = .ok (.iload_n 2, 1) := by decide +kernel
theorem d_185_57 : decode (mth 185).2.1 57 = .ok (.bipush 10, 2) := by decide +kernel
theorem d_185_59 : decode (mth 185).2.1 59 = .ok (.idiv, 1) := by decide +kernel
theorem d_185_60 : decode (mth 185).2.1 60 = .ok (.iadd, 1) := by decide +kernel
theorem d_185_61 : decode (mth 185).2.1 61 = .ok (.ireturn, 1) := by decide +kernel
theorem d_185_62 : decode (mth 185).2.1 62 = .ok (.iload 4, 2) := by decide +kernel
theorem d_185_64 : decode (mth 185).2.1 64 = .ok (.ireturn, 1) := by decide +kernel
theorem d_185_65 : decode (mth 185).2.1 65 = .ok (.iload 4, 2) := by decide +kernel
theorem d_185_67 : decode (mth 185).2.1 67 = .ok (.iconst 3, 1) := by decide +kernel
theorem d_185_68 : decode (mth 185).2.1 68 = .ok (.isub, 1) := by decide +kernel
theorem d_185_69 : decode (mth 185).2.1 69 = .ok (.iconst 0, 1) := by decide +kernel
theorem d_185_70 : decode (mth 185).2.1 70 = .ok (.bipush 99, 2) := by decide +kernel
theorem d_185_72 : decode (mth 185).2.1 72 = .ok (.invokestatic 73, 3) := by decide +kernel
theorem d_185_75 : decode (mth 185).2.1 75 = .ok (.ireturn, 1) := by decide +kernel
theorem d_185_76 : decode (mth 185).2.1 76 = .ok (.iconst 5, 1) := by decide +kernel
theorem d_185_77 : decode (mth 185).2.1 77 = .ok (.iload_n 1, 1) := by decide +kernel
theorem d_185_78 : decode (mth 185).2.1 78 = .ok (.imul, 1) := by decide +kernel
theorem d_185_79 : decode (mth 185).2.1 79 = .ok (.iconst 4, 1) := by decide +kernel
theorem d_185_80 : decode (mth 185).2.1 80 = .ok (.iadd, 1) := by decide +kernel
theorem d_185_81 : decode (mth 185).2.1 81 = .ok (.ireturn, 1) := by decide +kernel
theorem d_185_82 : decode (mth 185).2.1 82 = .ok (.iload_n 3, 1) := by decide +kernel
theorem d_185_83 : decode (mth 185).2.1 83 = .ok (.iconst 2, 1) := by decide +kernel
theorem d_185_84 : decode (mth 185).2.1 84 = .ok (.irem, 1) := by decide +kernel
theorem d_185_85 : decode (mth 185).2.1 85 = .ok (.iconst 1, 1) := by decide +kernel
theorem d_185_86 : decode (mth 185).2.1 86 = .ok (.if_icmp .ne 7, 3) := by decide +kernel
theorem d_185_89 : decode (mth 185).2.1 89 = .ok (.iconst 0, 1) := by decide +kernel
theorem d_185_90 : decode (mth 185).2.1 90 = .ok (.goto 8, 3) := by decide +kernel
theorem d_185_93 : decode (mth 185).2.1 93 = .ok (.iconst 5, 1) := by decide +kernel
theorem d_185_94 : decode (mth 185).2.1 94 = .ok (.iload_n 1, 1) := by decide +kernel
theorem d_185_95 : decode (mth 185).2.1 95 = .ok (.imul, 1) := by decide +kernel
theorem d_185_96 : decode (mth 185).2.1 96 = .ok (.iconst 4, 1) := by decide +kernel
theorem d_185_97 : decode (mth 185).2.1 97 = .ok (.iadd, 1) := by decide +kernel
theorem d_185_98 : decode (mth 185).2.1 98 = .ok (.ireturn, 1) := by decide +kernel
theorem d_185_99 : decode (mth 185).2.1 99 = .ok (.bipush 8, 2) := by decide +kernel
theorem d_185_101 : decode (mth 185).2.1 101 = .ok (.iload_n 1, 1) := by decide +kernel
theorem d_185_102 : decode (mth 185).2.1 102 = .ok (.imul, 1) := by decide +kernel
theorem d_185_103 : decode (mth 185).2.1 103 = .ok (.ireturn, 1) := by decide +kernel
/-! 186 PlayedTruthModel.held(III)I -/
theorem d_186_0 : decode (mth 186).2.1 0 = .ok (.iload_n 0, 1) := by decide +kernel
theorem d_186_1 : decode (mth 186).2.1 1 = .ok (.iload_n 1, 1) := by decide +kernel
theorem d_186_2 : decode (mth 186).2.1 2 = .ok (.if_icmp .ge 7, 3) := by decide +kernel
theorem d_186_5 : decode (mth 186).2.1 5 = .ok (.iload_n 1, 1) := by decide +kernel
theorem d_186_6 : decode (mth 186).2.1 6 = .ok (.goto 13, 3) := by decide +kernel
theorem d_186_9 : decode (mth 186).2.1 9 = .ok (.iload_n 0, 1) := by decide +kernel
theorem d_186_10 : decode (mth 186).2.1 10 = .ok (.iload_n 2, 1) := by decide +kernel
theorem d_186_11 : decode (mth 186).2.1 11 = .ok (.if_icmp .le 7, 3) := by decide +kernel
theorem d_186_14 : decode (mth 186).2.1 14 = .ok (.iload_n 2, 1) := by decide +kernel
theorem d_186_15 : decode (mth 186).2.1 15 = .ok (.goto 4, 3) := by decide +kernel
theorem d_186_18 : decode (mth 186).2.1 18 = .ok (.iload_n 0, 1) := by decide +kernel
theorem d_186_19 : decode (mth 186).2.1 19 = .ok (.ireturn, 1) := by decide +kernel
/-! 187 PlayedTruthModel.leans(I)I -/
theorem d_187_0 : decode (mth 187).2.1 0 = .ok (.iconst 0, 1) := by decide +kernel
theorem d_187_1 : decode (mth 187).2.1 1 = .ok (.istore_n 2, 1) := by decide +kernel
theorem d_187_2 : decode (mth 187).2.1 2 = .ok (.iconst 0, 1) := by decide +kernel
theorem d_187_3 : decode (mth 187).2.1 3 = .ok (.istore_n 3, 1) := by decide +kernel
theorem d_187_4 : decode (mth 187).2.1 4 = .ok (.iload_n 3, 1) := by decide +kernel
theorem d_187_5 : decode (mth 187).2.1 5 = .ok (.aload_n 0, 1) := by decide +kernel
theorem d_187_6 : decode (mth 187).2.1 6 = .ok (.getfield 7, 3) := by decide +kernel
theorem d_187_9 : decode (mth 187).2.1 9 = .ok (.iconst 0, 1) := by decide +kernel
theorem d_187_10 : decode (mth 187).2.1 10 = .ok (.iaload, 1) := by decide +kernel
theorem d_187_11 : decode (mth 187).2.1 11 = .ok (.if_icmp .ge 44, 3) := by decide +kernel
theorem d_187_14 : decode (mth 187).2.1 14 = .ok (.iload_n 2, 1) := by decide +kernel
theorem d_187_15 : decode (mth 187).2.1 15 = .ok (.aload_n 0, 1) := by decide +kernel
theorem d_187_16 : decode (mth 187).2.1 16 = .ok (.iload_n 3, 1) := by decide +kernel
theorem d_187_17 : decode (mth 187).2.1 17 = .ok (.iconst 4, 1) := by decide +kernel
theorem d_187_18 : decode (mth 187).2.1 18 = .ok (.invokevirtual 77, 3) := by decide +kernel
theorem d_187_21 : decode (mth 187).2.1 21 = .ok (.iconst 1, 1) := by decide +kernel
theorem d_187_22 : decode (mth 187).2.1 22 = .ok (.if_icmp .ne 24, 3) := by decide +kernel
theorem d_187_25 : decode (mth 187).2.1 25 = .ok (.aload_n 0, 1) := by decide +kernel
theorem d_187_26 : decode (mth 187).2.1 26 = .ok (.iload_n 3, 1) := by decide +kernel
theorem d_187_27 : decode (mth 187).2.1 27 = .ok (.iconst 3, 1) := by decide +kernel
theorem d_187_28 : decode (mth 187).2.1 28 = .ok (.invokevirtual 77, 3) := by decide +kernel
theorem d_187_31 : decode (mth 187).2.1 31 = .ok (.aload_n 0, 1) := by decide +kernel
theorem d_187_32 : decode (mth 187).2.1 32 = .ok (.iload_n 1, 1) := by decide +kernel
theorem d_187_33 : decode (mth 187).2.1 33 = .ok (.iconst 3, 1) := by decide +kernel
theorem d_187_34 : decode (mth 187).2.1 34 = .ok (.invokevirtual 77, 3) := by decide +kernel
theorem d_187_37 : decode (mth 187).2.1 37 = .ok (.iconst 1, 1) := by decide +kernel
theorem d_187_38 : decode (mth 187).2.1 38 = .ok (.isub, 1) := by decide +kernel
theorem d_187_39 : decode (mth 187).2.1 39 = .ok (.if_icmp .ne 7, 3) := by decide +kernel
theorem d_187_42 : decode (mth 187).2.1 42 = .ok (.iconst 1, 1) := by decide +kernel
theorem d_187_43 : decode (mth 187).2.1 43 = .ok (.goto 4, 3) := by decide +kernel
theorem d_187_46 : decode (mth 187).2.1 46 = .ok (.iconst 0, 1) := by decide +kernel
theorem d_187_47 : decode (mth 187).2.1 47 = .ok (.iadd, 1) := by decide +kernel
theorem d_187_48 : decode (mth 187).2.1 48 = .ok (.istore_n 2, 1) := by decide +kernel
theorem d_187_49 : decode (mth 187).2.1 49 = .ok (.iinc 3 1, 3) := by decide +kernel
theorem d_187_52 : decode (mth 187).2.1 52 = .ok (.goto (-48), 3) := by decide +kernel
theorem d_187_55 : decode (mth 187).2.1 55 = .ok (.iload_n 2, 1) := by decide +kernel
theorem d_187_56 : decode (mth 187).2.1 56 = .ok (.ireturn, 1) := by decide +kernel
/-! 188 PlayedTruthModel.draws(I)I -/
theorem d_188_0 : decode (mth 188).2.1 0 = .ok (.aload_n 0, 1) := by decide +kernel
theorem d_188_1 : decode (mth 188).2.1 1 = .ok (.iload_n 1, 1) := by decide +kernel
theorem d_188_2 : decode (mth 188).2.1 2 = .ok (.iconst 0, 1) := by decide +kernel
theorem d_188_3 : decode (mth 188).2.1 3 = .ok (.invokevirtual 77, 3) := by decide +kernel
theorem d_188_6 : decode (mth 188).2.1 6 = .ok (.aload_n 0, 1) := by decide +kernel
theorem d_188_7 : decode (mth 188).2.1 7 = .ok (.iload_n 1, 1) := by decide +kernel
theorem d_188_8 : decode (mth 188).2.1 8 = .ok (.iconst 2, 1) := by decide +kernel
theorem d_188_9 : decode (mth 188).2.1 9 = .ok (.invokevirtual 77, 3) := by decide +kernel
theorem d_188_12 : decode (mth 188).2.1 12 = .ok (.aload_n 0, 1) := by decide +kernel
theorem d_188_13 : decode (mth 188).2.1 13 = .ok (.iload_n 1, 1) := by decide +kernel
theorem d_188_14 : decode (mth 188).2.1 14 = .ok (.iconst 1, 1) := by decide +kernel
theorem d_188_15 : decode (mth 188).2.1 15 = .ok (.invokevirtual 77, 3) := by decide +kernel
theorem d_188_18 : decode (mth 188).2.1 18 = .ok (.iload_n 1, 1) := by decide +kernel
theorem d_188_19 : decode (mth 188).2.1 19 = .ok (.invokestatic 92, 3) := by decide +kernel
theorem d_188_22 : decode (mth 188).2.1 22 = .ok (.aload_n 0, 1) := by decide +kernel
theorem d_188_23 : decode (mth 188).2.1 23 = .ok (.getfield 7, 3) := by decide +kernel
theorem d_188_26 : decode (mth 188).2.1 26 = .ok (.bipush 23, 2) := by decide +kernel
theorem d_188_28 : decode (mth 188).2.1 28 = .ok (.aload_n 0, 1) := by decide +kernel
theorem d_188_29 : decode (mth 188).2.1 29 = .ok (.iload_n 1, 1) := by decide +kernel
theorem d_188_30 : decode (mth 188).2.1 30 = .ok (.iconst 3, 1) := by decide +kernel
theorem d_188_31 : decode (mth 188).2.1 31 = .ok (.invokevirtual 77, 3) := by decide +kernel
theorem d_188_34 : decode (mth 188).2.1 34 = .ok (.iadd, 1) := by decide +kernel
theorem d_188_35 : decode (mth 188).2.1 35 = .ok (.iaload, 1) := by decide +kernel
theorem d_188_36 : decode (mth 188).2.1 36 = .ok (.iadd, 1) := by decide +kernel
theorem d_188_37 : decode (mth 188).2.1 37 = .ok (.ireturn, 1) := by decide +kernel
/-! 189 PlayedTruthModel.drawsBy(IIII)I -/
theorem d_189_0 : decode (mth 189).2.1 0 = .ok (.bipush 10, 2) := by decide +kernel
theorem d_189_2 : decode (mth 189).2.1 2 = .ok (.iload_n 1, 1) := by decide +kernel
theorem d_189_3 : decode (mth 189).2.1 3 = .ok (.iadd, 1) := by decide +kernel
theorem d_189_4 : decode (mth 189).2.1 4 = .ok (.iload_n 2, 1) := by decide +kernel
theorem d_189_5 : decode (mth 189).2.1 5 = .ok (.bipush 9, 2) := by decide +kernel
theorem d_189_7 : decode (mth 189).2.1 7 = .ok (.idiv, 1) := by decide +kernel
theorem d_189_8 : decode (mth 189).2.1 8 = .ok (.isub, 1) := by decide +kernel
theorem d_189_9 : decode (mth 189).2.1 9 = .ok (.iconst 0, 1) := by decide +kernel
theorem d_189_10 : decode (mth 189).2.1 10 = .ok (.bipush 99, 2) := by decide +kernel
theorem d_189_12 : decode (mth 189).2.1 12 = .ok (.invokestatic 73, 3) := by decide +kernel
theorem d_189_15 : decode (mth 189).2.1 15 = .ok (.istore 4, 2) := by decide +kernel
theorem d_189_17 : decode (mth 189).2.1 17 = .ok (.iload_n 0, 1) := by decide +kernel
theorem d_189_18 : decode (mth 189).2.1 18 = .ok (.tableswitch 61 1 5 #[34, 37, 42, 49, 54], 34) := by decide +kernel
theorem d_189_52 : decode (mth 189).2.1 52 = .ok (.bipush 9, 2) := by decide +kernel
theorem d_189_54 : decode (mth 189).2.1 54 = .ok (.ireturn, 1) := by decide +kernel
theorem d_189_55 : decode (mth 189).2.1 55 = .ok (.iload 4, 2) := by decide +kernel
theorem d_189_57 : decode (mth 189).2.1 57 = .ok (.iload_n 1, 1) := by decide +kernel
theorem d_189_58 : decode (mth 189).2.1 58 = .ok (.iadd, 1) := by decide +kernel
theorem d_189_59 : decode (mth 189).2.1 59 = .ok (.ireturn, 1) := by decide +kernel
theorem d_189_60 : decode (mth 189).2.1 60 = .ok (.iconst 2, 1) := by decide +kernel
theorem d_189_61 : decode (mth 189).2.1 61 = .ok (.iload 4, 2) := by decide +kernel
theorem d_189_63 : decode (mth 189).2.1 63 = .ok (.iload_n 1, 1) := by decide +kernel
theorem d_189_64 : decode (mth 189).2.1 64 = .ok (.iadd, 1) := by decide +kernel
theorem d_189_65 : decode (mth 189).2.1 65 = .ok (.imul, 1) := by decide +kernel
theorem d_189_66 : decode (mth 189).2.1 66 = .ok (.ireturn, 1) := by decide +kernel
theorem d_189_67 : decode (mth 189).2.1 67 = .ok (.iload 4, 2) := by decide +kernel
theorem d_189_69 : decode (mth 189).2.1 69 = .ok (.iconst 2, 1) := by decide +kernel
theorem d_189_70 : decode (mth 189).2.1 70 = .ok (.idiv, 1) := by decide +kernel
theorem d_189_71 : decode (mth 189).2.1 71 = .ok (.ireturn, 1) := by decide +kernel
theorem d_189_72 : decode (mth 189).2.1 72 = .ok (.iload 4, 2) := by decide +kernel
theorem d_189_74 : decode (mth 189).2.1 74 = .ok (.iconst 2, 1) := by decide +kernel
theorem d_189_75 : decode (mth 189).2.1 75 = .ok (.idiv, 1) := by decide +kernel
theorem d_189_76 : decode (mth 189).2.1 76 = .ok (.iload_n 3, 1) := by decide +kernel
theorem d_189_77 : decode (mth 189).2.1 77 = .ok (.iadd, 1) := by decide +kernel
theorem d_189_78 : decode (mth 189).2.1 78 = .ok (.ireturn, 1) := by decide +kernel
theorem d_189_79 : decode (mth 189).2.1 79 = .ok (.iload 4, 2) := by decide +kernel
theorem d_189_81 : decode (mth 189).2.1 81 = .ok (.ireturn, 1) := by decide +kernel
/-! 190 PlayedTruthModel.isMendable(I)Z -/
theorem d_190_0 : decode (mth 190).2.1 0 = .ok (.aload_n 0, 1) := by decide +kernel
theorem d_190_1 : decode (mth 190).2.1 1 = .ok (.iload_n 1, 1) := by decide +kernel
theorem d_190_2 : decode (mth 190).2.1 2 = .ok (.iconst 4, 1) := by decide +kernel
theorem d_190_3 : decode (mth 190).2.1 3 = .ok (.invokevirtual 77, 3) := by decide +kernel
theorem d_190_6 : decode (mth 190).2.1 6 = .ok (.ifCond .ne 23, 3) := by decide +kernel
theorem d_190_9 : decode (mth 190).2.1 9 = .ok (.aload_n 0, 1) := by decide +kernel
theorem d_190_10 : decode (mth 190).2.1 10 = .ok (.iload_n 1, 1) := by decide +kernel
theorem d_190_11 : decode (mth 190).2.1 11 = .ok (.invokevirtual 108, 3) := by decide +kernel
theorem d_190_14 : decode (mth 190).2.1 14 = .ok (.ifCond .ne 15, 3) := by decide +kernel
theorem d_190_17 : decode (mth 190).2.1 17 = .ok (.aload_n 0, 1) := by decide +kernel
theorem d_190_18 : decode (mth 190).2.1 18 = .ok (.iload_n 1, 1) := by decide +kernel
theorem d_190_19 : decode (mth 190).2.1 19 = .ok (.invokevirtual 111, 3) := by decide +kernel
theorem d_190_22 : decode (mth 190).2.1 22 = .ok (.ifCond .le 7, 3) := by decide +kernel
theorem d_190_25 : decode (mth 190).2.1 25 = .ok (.iconst 1, 1) := by decide +kernel
theorem d_190_26 : decode (mth 190).2.1 26 = .ok (.goto 4, 3) := by decide +kernel
theorem d_190_29 : decode (mth 190).2.1 29 = .ok (.iconst 0, 1) := by decide +kernel
theorem d_190_30 : decode (mth 190).2.1 30 = .ok (.ireturn, 1) := by decide +kernel
/-! 191 PlayedTruthModel.will(I)I -/
theorem d_191_0 : decode (mth 191).2.1 0 = .ok (.iconst 0, 1) := by decide +kernel
theorem d_191_1 : decode (mth 191).2.1 1 = .ok (.istore_n 2, 1) := by decide +kernel
theorem d_191_2 : decode (mth 191).2.1 2 = .ok (.iload_n 2, 1) := by decide +kernel
theorem d_191_3 : decode (mth 191).2.1 3 = .ok (.aload_n 0, 1) := by decide +kernel
theorem d_191_4 : decode (mth 191).2.1 4 = .ok (.getfield 7, 3) := by decide +kernel
theorem d_191_7 : decode (mth 191).2.1 7 = .ok (.iconst 5, 1) := by decide +kernel
theorem d_191_8 : decode (mth 191).2.1 8 = .ok (.iaload, 1) := by decide +kernel
theorem d_191_9 : decode (mth 191).2.1 9 = .ok (.if_icmp .ge 96, 3) := by decide +kernel
theorem d_191_12 : decode (mth 191).2.1 12 = .ok (.aload_n 0, 1) := by decide +kernel
theorem d_191_13 : decode (mth 191).2.1 13 = .ok (.getfield 7, 3) := by decide +kernel
theorem d_191_16 : decode (mth 191).2.1 16 = .ok (.bipush 89, 2) := by decide +kernel
theorem d_191_18 : decode (mth 191).2.1 18 = .ok (.iconst 4, 1) := by decide +kernel
theorem d_191_19 : decode (mth 191).2.1 19 = .ok (.iload_n 2, 1) := by decide +kernel
theorem d_191_20 : decode (mth 191).2.1 20 = .ok (.imul, 1) := by decide +kernel
theorem d_191_21 : decode (mth 191).2.1 21 = .ok (.iadd, 1) := by decide +kernel
theorem d_191_22 : decode (mth 191).2.1 22 = .ok (.iaload, 1) := by decide +kernel
theorem d_191_23 : decode (mth 191).2.1 23 = .ok (.istore_n 3, 1) := by decide +kernel
theorem d_191_24 : decode (mth 191).2.1 24 = .ok (.iload_n 3, 1) := by decide +kernel
theorem d_191_25 : decode (mth 191).2.1 25 = .ok (.ifCond .eq 26, 3) := by decide +kernel
theorem d_191_28 : decode (mth 191).2.1 28 = .ok (.iload_n 3, 1) := by decide +kernel
theorem d_191_29 : decode (mth 191).2.1 29 = .ok (.aload_n 0, 1) := by decide +kernel
theorem d_191_30 : decode (mth 191).2.1 30 = .ok (.iload_n 1, 1) := by decide +kernel
theorem d_191_31 : decode (mth 191).2.1 31 = .ok (.iconst 0, 1) := by decide +kernel
theorem d_191_32 : decode (mth 191).2.1 32 = .ok (.invokevirtual 77, 3) := by decide +kernel
theorem d_191_35 : decode (mth 191).2.1 35 = .ok (.if_icmp .eq 16, 3) := by decide +kernel
theorem d_191_38 : decode (mth 191).2.1 38 = .ok (.iload_n 3, 1) := by decide +kernel
theorem d_191_39 : decode (mth 191).2.1 39 = .ok (.aload_n 0, 1) := by decide +kernel
theorem d_191_40 : decode (mth 191).2.1 40 = .ok (.iload_n 1, 1) := by decide +kernel
theorem d_191_41 : decode (mth 191).2.1 41 = .ok (.iconst 0, 1) := by decide +kernel
theorem d_191_42 : decode (mth 191).2.1 42 = .ok (.invokevirtual 77, 3) := by decide +kernel
theorem d_191_45 : decode (mth 191).2.1 45 = .ok (.invokestatic 101, 3) := by decide +kernel
theorem d_191_48 : decode (mth 191).2.1 48 = .ok (.if_icmp .ne 51, 3) := by decide +kernel
theorem d_191_51 : decode (mth 191).2.1 51 = .ok (.aload_n 0, 1) := by decide +kernel
theorem d_191_52 : decode (mth 191).2.1 52 = .ok (.aload_n 0, 1) := by decide +kernel
theorem d_191_53 : decode (mth 191).2.1 53 = .ok (.getfield 7, 3) := by decide +kernel
theorem d_191_56 : decode (mth 191).2.1 56 = .ok (.bipush 89, 2) := by decide +kernel
theorem d_191_58 : decode (mth 191).2.1 58 = .ok (.iconst 4, 1) := by decide +kernel
theorem d_191_59 : decode (mth 191).2.1 59 = .ok (.iload_n 2, 1) := by decide +kernel
theorem d_191_60 : decode (mth 191).2.1 60 = .ok (.imul, 1) := by decide +kernel
theorem d_191_61 : decode (mth 191).2.1 61 = .ok (.iadd, 1) := by decide +kernel
theorem d_191_62 : decode (mth 191).2.1 62 = .ok (.iconst 2, 1) := by decide +kernel
theorem d_191_63 : decode (mth 191).2.1 63 = .ok (.iadd, 1) := by decide +kernel
theorem d_191_64 : decode (mth 191).2.1 64 = .ok (.iaload, 1) := by decide +kernel
theorem d_191_65 : decode (mth 191).2.1 65 = .ok (.aload_n 0, 1) := by decide +kernel
theorem d_191_66 : decode (mth 191).2.1 66 = .ok (.getfield 7, 3) := by decide +kernel
theorem d_191_69 : decode (mth 191).2.1 69 = .ok (.bipush 89, 2) := by decide +kernel
theorem d_191_71 : decode (mth 191).2.1 71 = .ok (.iconst 4, 1) := by decide +kernel
theorem d_191_72 : decode (mth 191).2.1 72 = .ok (.iload_n 2, 1) := by decide +kernel
theorem d_191_73 : decode (mth 191).2.1 73 = .ok (.imul, 1) := by decide +kernel
theorem d_191_74 : decode (mth 191).2.1 74 = .ok (.iadd, 1) := by decide +kernel
theorem d_191_75 : decode (mth 191).2.1 75 = .ok (.iconst 3, 1) := by decide +kernel
theorem d_191_76 : decode (mth 191).2.1 76 = .ok (.iadd, 1) := by decide +kernel
theorem d_191_77 : decode (mth 191).2.1 77 = .ok (.iaload, 1) := by decide +kernel
theorem d_191_78 : decode (mth 191).2.1 78 = .ok (.iload_n 1, 1) := by decide +kernel
theorem d_191_79 : decode (mth 191).2.1 79 = .ok (.invokevirtual 104, 3) := by decide +kernel
theorem d_191_82 : decode (mth 191).2.1 82 = .ok (.ifCond .eq 17, 3) := by decide +kernel
theorem d_191_85 : decode (mth 191).2.1 85 = .ok (.aload_n 0, 1) := by decide +kernel
theorem d_191_86 : decode (mth 191).2.1 86 = .ok (.getfield 7, 3) := by decide +kernel
theorem d_191_89 : decode (mth 191).2.1 89 = .ok (.bipush 89, 2) := by decide +kernel
theorem d_191_91 : decode (mth 191).2.1 91 = .ok (.iconst 4, 1) := by decide +kernel
theorem d_191_92 : decode (mth 191).2.1 92 = .ok (.iload_n 2, 1) := by decide +kernel
theorem d_191_93 : decode (mth 191).2.1 93 = .ok (.imul, 1) := by decide +kernel
theorem d_191_94 : decode (mth 191).2.1 94 = .ok (.iadd, 1) := by decide +kernel
theorem d_191_95 : decode (mth 191).2.1 95 = .ok (.iconst 1, 1) := by decide +kernel
theorem d_191_96 : decode (mth 191).2.1 96 = .ok (.iadd, 1) := by decide +kernel
theorem d_191_97 : decode (mth 191).2.1 97 = .ok (.iaload, 1) := by decide +kernel
theorem d_191_98 : decode (mth 191).2.1 98 = .ok (.ireturn, 1) := by decide +kernel
theorem d_191_99 : decode (mth 191).2.1 99 = .ok (.iinc 2 1, 3) := by decide +kernel
theorem d_191_102 : decode (mth 191).2.1 102 = .ok (.goto (-100), 3) := by decide +kernel
theorem d_191_105 : decode (mth 191).2.1 105 = .ok (.iconst 0, 1) := by decide +kernel
theorem d_191_106 : decode (mth 191).2.1 106 = .ok (.ireturn, 1) := by decide +kernel
/-! 192 PlayedTruthModel.above(I)I -/
theorem d_192_0 : decode (mth 192).2.1 0 = .ok (.iload_n 0, 1) := by decide +kernel
theorem d_192_1 : decode (mth 192).2.1 1 = .ok (.iconst 3, 1) := by decide +kernel
theorem d_192_2 : decode (mth 192).2.1 2 = .ok (.if_icmp .ne 7, 3) := by decide +kernel
theorem d_192_5 : decode (mth 192).2.1 5 = .ok (.iconst 2, 1) := by decide +kernel
theorem d_192_6 : decode (mth 192).2.1 6 = .ok (.goto 13, 3) := by decide +kernel
theorem d_192_9 : decode (mth 192).2.1 9 = .ok (.iload_n 0, 1) := by decide +kernel
theorem d_192_10 : decode (mth 192).2.1 10 = .ok (.iconst 5, 1) := by decide +kernel
theorem d_192_11 : decode (mth 192).2.1 11 = .ok (.if_icmp .ne 7, 3) := by decide +kernel
theorem d_192_14 : decode (mth 192).2.1 14 = .ok (.iconst 4, 1) := by decide +kernel
theorem d_192_15 : decode (mth 192).2.1 15 = .ok (.goto 4, 3) := by decide +kernel
theorem d_192_18 : decode (mth 192).2.1 18 = .ok (.iconst 0, 1) := by decide +kernel
theorem d_192_19 : decode (mth 192).2.1 19 = .ok (.ireturn, 1) := by decide +kernel
/-! 193 PlayedTruthModel.holds(III)Z -/
theorem d_193_0 : decode (mth 193).2.1 0 = .ok (.iload_n 1, 1) := by decide +kernel
theorem d_193_1 : decode (mth 193).2.1 1 = .ok (.iload_n 2, 1) := by decide +kernel
theorem d_193_2 : decode (mth 193).2.1 2 = .ok (.if_icmp .ne 5, 3) := by decide +kernel
theorem d_193_5 : decode (mth 193).2.1 5 = .ok (.iconst 1, 1) := by decide +kernel
theorem d_193_6 : decode (mth 193).2.1 6 = .ok (.ireturn, 1) := by decide +kernel
theorem d_193_7 : decode (mth 193).2.1 7 = .ok (.iconst 0, 1) := by decide +kernel
theorem d_193_8 : decode (mth 193).2.1 8 = .ok (.istore 4, 2) := by decide +kernel
theorem d_193_10 : decode (mth 193).2.1 10 = .ok (.iload_n 1, 1) := by decide +kernel
theorem d_193_11 : decode (mth 193).2.1 11 = .ok (.istore 5, 2) := by decide +kernel
theorem d_193_13 : decode (mth 193).2.1 13 = .ok (.iload 5, 2) := by decide +kernel
theorem d_193_15 : decode (mth 193).2.1 15 = .ok (.iload_n 2, 1) := by decide +kernel
theorem d_193_16 : decode (mth 193).2.1 16 = .ok (.if_icmp .ge 134, 3) := by decide +kernel
theorem d_193_19 : decode (mth 193).2.1 19 = .ok (.aload_n 0, 1) := by decide +kernel
theorem d_193_20 : decode (mth 193).2.1 20 = .ok (.getfield 7, 3) := by decide +kernel
theorem d_193_23 : decode (mth 193).2.1 23 = .ok (.bipush 121, 2) := by decide +kernel
theorem d_193_25 : decode (mth 193).2.1 25 = .ok (.iload 5, 2) := by decide +kernel
theorem d_193_27 : decode (mth 193).2.1 27 = .ok (.iadd, 1) := by decide +kernel
theorem d_193_28 : decode (mth 193).2.1 28 = .ok (.iaload, 1) := by decide +kernel
theorem d_193_29 : decode (mth 193).2.1 29 = .ok (.istore 6, 2) := by decide +kernel
theorem d_193_31 : decode (mth 193).2.1 31 = .ok (.iload 6, 2) := by decide +kernel
theorem d_193_33 : decode (mth 193).2.1 33 = .ok (.sipush 20000, 3) := by decide +kernel
theorem d_193_36 : decode (mth 193).2.1 36 = .ok (.if_icmp .ge 40, 3) := by decide +kernel
theorem d_193_39 : decode (mth 193).2.1 39 = .ok (.aload_n 0, 1) := by decide +kernel
theorem d_193_40 : decode (mth 193).2.1 40 = .ok (.getfield 19, 3) := by decide +kernel
theorem d_193_43 : decode (mth 193).2.1 43 = .ok (.iload 4, 2) := by decide +kernel
theorem d_193_45 : decode (mth 193).2.1 45 = .ok (.iload 6, 2) := by decide +kernel
theorem d_193_47 : decode (mth 193).2.1 47 = .ok (.sipush 10000, 3) := by decide +kernel
theorem d_193_50 : decode (mth 193).2.1 50 = .ok (.if_icmp .ge 8, 3) := by decide +kernel
theorem d_193_53 : decode (mth 193).2.1 53 = .ok (.iload 6, 2) := by decide +kernel
theorem d_193_55 : decode (mth 193).2.1 55 = .ok (.goto 14, 3) := by decide +kernel
theorem d_193_58 : decode (mth 193).2.1 58 = .ok (.aload_n 0, 1) := by decide +kernel
theorem d_193_59 : decode (mth 193).2.1 59 = .ok (.iload 6, 2) := by decide +kernel
theorem d_193_61 : decode (mth 193).2.1 61 = .ok (.sipush 10000, 3) := by decide +kernel
theorem d_193_64 : decode (mth 193).2.1 64 = .ok (.isub, 1) := by decide +kernel
theorem d_193_65 : decode (mth 193).2.1 65 = .ok (.iload_n 3, 1) := by decide +kernel
theorem d_193_66 : decode (mth 193).2.1 66 = .ok (.invokevirtual 95, 3) := by decide +kernel
theorem d_193_69 : decode (mth 193).2.1 69 = .ok (.iastore, 1) := by decide +kernel
theorem d_193_70 : decode (mth 193).2.1 70 = .ok (.iinc 4 1, 3) := by decide +kernel
theorem d_193_73 : decode (mth 193).2.1 73 = .ok (.goto 71, 3) := by decide +kernel
theorem d_193_76 : decode (mth 193).2.1 76 = .ok (.iload 6, 2) := by decide +kernel
theorem d_193_78 : decode (mth 193).2.1 78 = .ok (.sipush 20033, 3) := by decide +kernel
theorem d_193_81 : decode (mth 193).2.1 81 = .ok (.if_icmp .ne 26, 3) := by decide +kernel
theorem d_193_84 : decode (mth 193).2.1 84 = .ok (.aload_n 0, 1) := by decide +kernel
theorem d_193_85 : decode (mth 193).2.1 85 = .ok (.getfield 19, 3) := by decide +kernel
theorem d_193_88 : decode (mth 193).2.1 88 = .ok (.iload 4, 2) := by decide +kernel
theorem d_193_90 : decode (mth 193).2.1 90 = .ok (.iconst 1, 1) := by decide +kernel
theorem d_193_91 : decode (mth 193).2.1 91 = .ok (.isub, 1) := by decide +kernel
theorem d_193_92 : decode (mth 193).2.1 92 = .ok (.iconst 1, 1) := by decide +kernel
theorem d_193_93 : decode (mth 193).2.1 93 = .ok (.aload_n 0, 1) := by decide +kernel
theorem d_193_94 : decode (mth 193).2.1 94 = .ok (.getfield 19, 3) := by decide +kernel
theorem d_193_97 : decode (mth 193).2.1 97 = .ok (.iload 4, 2) := by decide +kernel
theorem d_193_99 : decode (mth 193).2.1 99 = .ok (.iconst 1, 1) := by decide +kernel
theorem d_193_100 : decode (mth 193).2.1 100 = .ok (.isub, 1) := by decide +kernel
theorem d_193_101 : decode (mth 193).2.1 101 = .ok (.iaload, 1) := by decide +kernel
theorem d_193_102 : decode (mth 193).2.1 102 = .ok (.isub, 1) := by decide +kernel
theorem d_193_103 : decode (mth 193).2.1 103 = .ok (.iastore, 1) := by decide +kernel
theorem d_193_104 : decode (mth 193).2.1 104 = .ok (.goto 40, 3) := by decide +kernel
theorem d_193_107 : decode (mth 193).2.1 107 = .ok (.iinc 4 (-1), 3) := by decide +kernel
theorem d_193_110 : decode (mth 193).2.1 110 = .ok (.aload_n 0, 1) := by decide +kernel
theorem d_193_111 : decode (mth 193).2.1 111 = .ok (.getfield 19, 3) := by decide +kernel
theorem d_193_114 : decode (mth 193).2.1 114 = .ok (.iload 4, 2) := by decide +kernel
theorem d_193_116 : decode (mth 193).2.1 116 = .ok (.iconst 1, 1) := by decide +kernel
theorem d_193_117 : decode (mth 193).2.1 117 = .ok (.isub, 1) := by decide +kernel
theorem d_193_118 : decode (mth 193).2.1 118 = .ok (.iload 6, 2) := by decide +kernel
theorem d_193_120 : decode (mth 193).2.1 120 = .ok (.sipush 20000, 3) := by decide +kernel
theorem d_193_123 : decode (mth 193).2.1 123 = .ok (.isub, 1) := by decide +kernel
theorem d_193_124 : decode (mth 193).2.1 124 = .ok (.aload_n 0, 1) := by decide +kernel
theorem d_193_125 : decode (mth 193).2.1 125 = .ok (.getfield 19, 3) := by decide +kernel
theorem d_193_128 : decode (mth 193).2.1 128 = .ok (.iload 4, 2) := by decide +kernel
theorem d_193_130 : decode (mth 193).2.1 130 = .ok (.iconst 1, 1) := by decide +kernel
theorem d_193_131 : decode (mth 193).2.1 131 = .ok (.isub, 1) := by decide +kernel
theorem d_193_132 : decode (mth 193).2.1 132 = .ok (.iaload, 1) := by decide +kernel
theorem d_193_133 : decode (mth 193).2.1 133 = .ok (.aload_n 0, 1) := by decide +kernel
theorem d_193_134 : decode (mth 193).2.1 134 = .ok (.getfield 19, 3) := by decide +kernel
theorem d_193_137 : decode (mth 193).2.1 137 = .ok (.iload 4, 2) := by decide +kernel
theorem d_193_139 : decode (mth 193).2.1 139 = .ok (.iaload, 1) := by decide +kernel
theorem d_193_140 : decode (mth 193).2.1 140 = .ok (.invokestatic 98, 3) := by decide +kernel
theorem d_193_143 : decode (mth 193).2.1 143 = .ok (.iastore, 1) := by decide +kernel
theorem d_193_144 : decode (mth 193).2.1 144 = .ok (.iinc 5 1, 3) := by decide +kernel
theorem d_193_147 : decode (mth 193).2.1 147 = .ok (.goto (-134), 3) := by decide +kernel
theorem d_193_150 : decode (mth 193).2.1 150 = .ok (.aload_n 0, 1) := by decide +kernel
theorem d_193_151 : decode (mth 193).2.1 151 = .ok (.getfield 19, 3) := by decide +kernel
theorem d_193_154 : decode (mth 193).2.1 154 = .ok (.iconst 0, 1) := by decide +kernel
theorem d_193_155 : decode (mth 193).2.1 155 = .ok (.iaload, 1) := by decide +kernel
theorem d_193_156 : decode (mth 193).2.1 156 = .ok (.iconst 1, 1) := by decide +kernel
theorem d_193_157 : decode (mth 193).2.1 157 = .ok (.if_icmp .ne 7, 3) := by decide +kernel
theorem d_193_160 : decode (mth 193).2.1 160 = .ok (.iconst 1, 1) := by decide +kernel
theorem d_193_161 : decode (mth 193).2.1 161 = .ok (.goto 4, 3) := by decide +kernel
theorem d_193_164 : decode (mth 193).2.1 164 = .ok (.iconst 0, 1) := by decide +kernel
theorem d_193_165 : decode (mth 193).2.1 165 = .ok (.ireturn, 1) := by decide +kernel
/-! 194 PlayedTruthModel.factOf(II)I -/
theorem d_194_0 : decode (mth 194).2.1 0 = .ok (.iload_n 1, 1) := by decide +kernel
theorem d_194_1 : decode (mth 194).2.1 1 = .ok (.tableswitch 57 0 3 #[31, 38, 45, 52], 31) := by decide +kernel
theorem d_194_32 : decode (mth 194).2.1 32 = .ok (.aload_n 0, 1) := by decide +kernel
theorem d_194_33 : decode (mth 194).2.1 33 = .ok (.getfield 7, 3) := by decide +kernel
theorem d_194_36 : decode (mth 194).2.1 36 = .ok (.iconst 1, 1) := by decide +kernel
theorem d_194_37 : decode (mth 194).2.1 37 = .ok (.iaload, 1) := by decide +kernel
theorem d_194_38 : decode (mth 194).2.1 38 = .ok (.ireturn, 1) := by decide +kernel
theorem d_194_39 : decode (mth 194).2.1 39 = .ok (.aload_n 0, 1) := by decide +kernel
theorem d_194_40 : decode (mth 194).2.1 40 = .ok (.iload_n 2, 1) := by decide +kernel
theorem d_194_41 : decode (mth 194).2.1 41 = .ok (.iconst 1, 1) := by decide +kernel
theorem d_194_42 : decode (mth 194).2.1 42 = .ok (.invokevirtual 77, 3) := by decide +kernel
theorem d_194_45 : decode (mth 194).2.1 45 = .ok (.ireturn, 1) := by decide +kernel
theorem d_194_46 : decode (mth 194).2.1 46 = .ok (.aload_n 0, 1) := by decide +kernel
theorem d_194_47 : decode (mth 194).2.1 47 = .ok (.iload_n 2, 1) := by decide +kernel
theorem d_194_48 : decode (mth 194).2.1 48 = .ok (.iconst 2, 1) := by decide +kernel
theorem d_194_49 : decode (mth 194).2.1 49 = .ok (.invokevirtual 77, 3) := by decide +kernel
theorem d_194_52 : decode (mth 194).2.1 52 = .ok (.ireturn, 1) := by decide +kernel
theorem d_194_53 : decode (mth 194).2.1 53 = .ok (.aload_n 0, 1) := by decide +kernel
theorem d_194_54 : decode (mth 194).2.1 54 = .ok (.invokevirtual 81, 3) := by decide +kernel
theorem d_194_57 : decode (mth 194).2.1 57 = .ok (.ireturn, 1) := by decide +kernel
theorem d_194_58 : decode (mth 194).2.1 58 = .ok (.iload_n 2, 1) := by decide +kernel
theorem d_194_59 : decode (mth 194).2.1 59 = .ok (.ireturn, 1) := by decide +kernel
/-! 195 PlayedTruthModel.done(III)I -/
theorem d_195_0 : decode (mth 195).2.1 0 = .ok (.iload_n 0, 1) := by decide +kernel
theorem d_195_1 : decode (mth 195).2.1 1 = .ok (.lookupswitch 80 #[(38, 76), (60, 43), (61, 54), (62, 65)], 43) := by decide +kernel
theorem d_195_44 : decode (mth 195).2.1 44 = .ok (.iload_n 1, 1) := by decide +kernel
theorem d_195_45 : decode (mth 195).2.1 45 = .ok (.iload_n 2, 1) := by decide +kernel
theorem d_195_46 : decode (mth 195).2.1 46 = .ok (.if_icmp .ge 7, 3) := by decide +kernel
theorem d_195_49 : decode (mth 195).2.1 49 = .ok (.iconst 1, 1) := by decide +kernel
theorem d_195_50 : decode (mth 195).2.1 50 = .ok (.goto 4, 3) := by decide +kernel
theorem d_195_53 : decode (mth 195).2.1 53 = .ok (.iconst 0, 1) := by decide +kernel
theorem d_195_54 : decode (mth 195).2.1 54 = .ok (.ireturn, 1) := by decide +kernel
theorem d_195_55 : decode (mth 195).2.1 55 = .ok (.iload_n 1, 1) := by decide +kernel
theorem d_195_56 : decode (mth 195).2.1 56 = .ok (.iload_n 2, 1) := by decide +kernel
theorem d_195_57 : decode (mth 195).2.1 57 = .ok (.if_icmp .ne 7, 3) := by decide +kernel
theorem d_195_60 : decode (mth 195).2.1 60 = .ok (.iconst 1, 1) := by decide +kernel
theorem d_195_61 : decode (mth 195).2.1 61 = .ok (.goto 4, 3) := by decide +kernel
theorem d_195_64 : decode (mth 195).2.1 64 = .ok (.iconst 0, 1) := by decide +kernel
theorem d_195_65 : decode (mth 195).2.1 65 = .ok (.ireturn, 1) := by decide +kernel
theorem d_195_66 : decode (mth 195).2.1 66 = .ok (.iload_n 1, 1) := by decide +kernel
theorem d_195_67 : decode (mth 195).2.1 67 = .ok (.iload_n 2, 1) := by decide +kernel
theorem d_195_68 : decode (mth 195).2.1 68 = .ok (.if_icmp .le 7, 3) := by decide +kernel
theorem d_195_71 : decode (mth 195).2.1 71 = .ok (.iconst 1, 1) := by decide +kernel
theorem d_195_72 : decode (mth 195).2.1 72 = .ok (.goto 4, 3) := by decide +kernel
theorem d_195_75 : decode (mth 195).2.1 75 = .ok (.iconst 0, 1) := by decide +kernel
theorem d_195_76 : decode (mth 195).2.1 76 = .ok (.ireturn, 1) := by decide +kernel
theorem d_195_77 : decode (mth 195).2.1 77 = .ok (.iload_n 1, 1) := by decide +kernel
theorem d_195_78 : decode (mth 195).2.1 78 = .ok (.iload_n 2, 1) := by decide +kernel
theorem d_195_79 : decode (mth 195).2.1 79 = .ok (.imul, 1) := by decide +kernel
theorem d_195_80 : decode (mth 195).2.1 80 = .ok (.ireturn, 1) := by decide +kernel
theorem d_195_81 : decode (mth 195).2.1 81 = .ok (.iload_n 1, 1) := by decide +kernel
theorem d_195_82 : decode (mth 195).2.1 82 = .ok (.iload_n 2, 1) := by decide +kernel
theorem d_195_83 : decode (mth 195).2.1 83 = .ok (.iadd, 1) := by decide +kernel
theorem d_195_84 : decode (mth 195).2.1 84 = .ok (.ifCond .le 7, 3) := by decide +kernel
theorem d_195_87 : decode (mth 195).2.1 87 = .ok (.iconst 1, 1) := by decide +kernel
theorem d_195_88 : decode (mth 195).2.1 88 = .ok (.goto 4, 3) := by decide +kernel
theorem d_195_91 : decode (mth 195).2.1 91 = .ok (.iconst 0, 1) := by decide +kernel
theorem d_195_92 : decode (mth 195).2.1 92 = .ok (.ireturn, 1) := by decide +kernel
/-! 196 PlayedTruthModel.change(III)I -/
theorem d_196_0 : decode (mth 196).2.1 0 = .ok (.iload_n 2, 1) := by decide +kernel
theorem d_196_1 : decode (mth 196).2.1 1 = .ok (.iconst 1, 1) := by decide +kernel
theorem d_196_2 : decode (mth 196).2.1 2 = .ok (.if_icmp .ne 15, 3) := by decide +kernel
theorem d_196_5 : decode (mth 196).2.1 5 = .ok (.iload_n 3, 1) := by decide +kernel
theorem d_196_6 : decode (mth 196).2.1 6 = .ok (.i2l, 1) := by decide +kernel
theorem d_196_7 : decode (mth 196).2.1 7 = .ok (.lconst 0, 1) := by decide +kernel
theorem d_196_8 : decode (mth 196).2.1 8 = .ok (.ldc2_w 140, 3) := by decide +kernel
theorem d_196_11 : decode (mth 196).2.1 11 = .ok (.invokestatic 58, 3) := by decide +kernel
theorem d_196_14 : decode (mth 196).2.1 14 = .ok (.goto 57, 3) := by decide +kernel
theorem d_196_17 : decode (mth 196).2.1 17 = .ok (.iload_n 2, 1) := by decide +kernel
theorem d_196_18 : decode (mth 196).2.1 18 = .ok (.iconst 2, 1) := by decide +kernel
theorem d_196_19 : decode (mth 196).2.1 19 = .ok (.if_icmp .ne 15, 3) := by decide +kernel
theorem d_196_22 : decode (mth 196).2.1 22 = .ok (.iload_n 3, 1) := by decide +kernel
theorem d_196_23 : decode (mth 196).2.1 23 = .ok (.i2l, 1) := by decide +kernel
theorem d_196_24 : decode (mth 196).2.1 24 = .ok (.lconst 0, 1) := by decide +kernel
theorem d_196_25 : decode (mth 196).2.1 25 = .ok (.ldc2_w 142, 3) := by decide +kernel
theorem d_196_28 : decode (mth 196).2.1 28 = .ok (.invokestatic 58, 3) := by decide +kernel
theorem d_196_31 : decode (mth 196).2.1 31 = .ok (.goto 40, 3) := by decide +kernel
theorem d_196_34 : decode (mth 196).2.1 34 = .ok (.iload_n 2, 1) := by decide +kernel
theorem d_196_35 : decode (mth 196).2.1 35 = .ok (.iconst 3, 1) := by decide +kernel
theorem d_196_36 : decode (mth 196).2.1 36 = .ok (.if_icmp .ne 15, 3) := by decide +kernel
theorem d_196_39 : decode (mth 196).2.1 39 = .ok (.iload_n 3, 1) := by decide +kernel
theorem d_196_40 : decode (mth 196).2.1 40 = .ok (.i2l, 1) := by decide +kernel
theorem d_196_41 : decode (mth 196).2.1 41 = .ok (.lconst 0, 1) := by decide +kernel
theorem d_196_42 : decode (mth 196).2.1 42 = .ok (.ldc2_w 138, 3) := by decide +kernel
theorem d_196_45 : decode (mth 196).2.1 45 = .ok (.invokestatic 58, 3) := by decide +kernel
theorem d_196_48 : decode (mth 196).2.1 48 = .ok (.goto 23, 3) := by decide +kernel
theorem d_196_51 : decode (mth 196).2.1 51 = .ok (.iload_n 2, 1) := by decide +kernel
theorem d_196_52 : decode (mth 196).2.1 52 = .ok (.iconst 4, 1) := by decide +kernel
theorem d_196_53 : decode (mth 196).2.1 53 = .ok (.if_icmp .ne 17, 3) := by decide +kernel
theorem d_196_56 : decode (mth 196).2.1 56 = .ok (.iload_n 3, 1) := by decide +kernel
theorem d_196_57 : decode (mth 196).2.1 57 = .ok (.i2l, 1) := by decide +kernel
theorem d_196_58 : decode (mth 196).2.1 58 = .ok (.lconst 0, 1) := by decide +kernel
theorem d_196_59 : decode (mth 196).2.1 59 = .ok (.lconst 1, 1) := by decide +kernel
theorem d_196_60 : decode (mth 196).2.1 60 = .ok (.invokestatic 58, 3) := by decide +kernel
theorem d_196_63 : decode (mth 196).2.1 63 = .ok (.ifCond .eq 7, 3) := by decide +kernel
theorem d_196_66 : decode (mth 196).2.1 66 = .ok (.iconst 1, 1) := by decide +kernel
theorem d_196_67 : decode (mth 196).2.1 67 = .ok (.goto 4, 3) := by decide +kernel
theorem d_196_70 : decode (mth 196).2.1 70 = .ok (.iconst 0, 1) := by decide +kernel
theorem d_196_71 : decode (mth 196).2.1 71 = .ok (.istore 4, 2) := by decide +kernel
theorem d_196_73 : decode (mth 196).2.1 73 = .ok (.aload_n 0, 1) := by decide +kernel
theorem d_196_74 : decode (mth 196).2.1 74 = .ok (.iload_n 1, 1) := by decide +kernel
theorem d_196_75 : decode (mth 196).2.1 75 = .ok (.invokevirtual 144, 3) := by decide +kernel
theorem d_196_78 : decode (mth 196).2.1 78 = .ok (.ifCond .eq 24, 3) := by decide +kernel
theorem d_196_81 : decode (mth 196).2.1 81 = .ok (.iload 4, 2) := by decide +kernel
theorem d_196_83 : decode (mth 196).2.1 83 = .ok (.ifCond .eq 19, 3) := by decide +kernel
theorem d_196_86 : decode (mth 196).2.1 86 = .ok (.aload_n 0, 1) := by decide +kernel
theorem d_196_87 : decode (mth 196).2.1 87 = .ok (.bipush 35, 2) := by decide +kernel
theorem d_196_89 : decode (mth 196).2.1 89 = .ok (.iconst 5, 1) := by decide +kernel
theorem d_196_90 : decode (mth 196).2.1 90 = .ok (.iload_n 1, 1) := by decide +kernel
theorem d_196_91 : decode (mth 196).2.1 91 = .ok (.imul, 1) := by decide +kernel
theorem d_196_92 : decode (mth 196).2.1 92 = .ok (.iadd, 1) := by decide +kernel
theorem d_196_93 : decode (mth 196).2.1 93 = .ok (.iload_n 2, 1) := by decide +kernel
theorem d_196_94 : decode (mth 196).2.1 94 = .ok (.iadd, 1) := by decide +kernel
theorem d_196_95 : decode (mth 196).2.1 95 = .ok (.iload_n 3, 1) := by decide +kernel
theorem d_196_96 : decode (mth 196).2.1 96 = .ok (.invokevirtual 147, 3) := by decide +kernel
theorem d_196_99 : decode (mth 196).2.1 99 = .ok (.goto 4, 3) := by decide +kernel
theorem d_196_102 : decode (mth 196).2.1 102 = .ok (.iconst (-1), 1) := by decide +kernel
theorem d_196_103 : decode (mth 196).2.1 103 = .ok (.ireturn, 1) := by decide +kernel
/-! 197 PlayedTruthModel.becomes(II)I -/
theorem d_197_0 : decode (mth 197).2.1 0 = .ok (.aload_n 0, 1) := by decide +kernel
theorem d_197_1 : decode (mth 197).2.1 1 = .ok (.getfield 7, 3) := by decide +kernel
theorem d_197_4 : decode (mth 197).2.1 4 = .ok (.iload_n 1, 1) := by decide +kernel
theorem d_197_5 : decode (mth 197).2.1 5 = .ok (.iaload, 1) := by decide +kernel
theorem d_197_6 : decode (mth 197).2.1 6 = .ok (.istore_n 3, 1) := by decide +kernel
theorem d_197_7 : decode (mth 197).2.1 7 = .ok (.aload_n 0, 1) := by decide +kernel
theorem d_197_8 : decode (mth 197).2.1 8 = .ok (.getfield 7, 3) := by decide +kernel
theorem d_197_11 : decode (mth 197).2.1 11 = .ok (.iload_n 1, 1) := by decide +kernel
theorem d_197_12 : decode (mth 197).2.1 12 = .ok (.iload_n 2, 1) := by decide +kernel
theorem d_197_13 : decode (mth 197).2.1 13 = .ok (.iastore, 1) := by decide +kernel
theorem d_197_14 : decode (mth 197).2.1 14 = .ok (.iload_n 3, 1) := by decide +kernel
theorem d_197_15 : decode (mth 197).2.1 15 = .ok (.ireturn, 1) := by decide +kernel
/-! 198 PlayedTruthModel.remake(II)I -/
theorem d_198_0 : decode (mth 198).2.1 0 = .ok (.aload_n 0, 1) := by decide +kernel
theorem d_198_1 : decode (mth 198).2.1 1 = .ok (.iload_n 1, 1) := by decide +kernel
theorem d_198_2 : decode (mth 198).2.1 2 = .ok (.invokevirtual 144, 3) := by decide +kernel
theorem d_198_5 : decode (mth 198).2.1 5 = .ok (.ifCond .eq 29, 3) := by decide +kernel
theorem d_198_8 : decode (mth 198).2.1 8 = .ok (.iload_n 2, 1) := by decide +kernel
theorem d_198_9 : decode (mth 198).2.1 9 = .ok (.i2l, 1) := by decide +kernel
theorem d_198_10 : decode (mth 198).2.1 10 = .ok (.lconst 1, 1) := by decide +kernel
theorem d_198_11 : decode (mth 198).2.1 11 = .ok (.ldc2_w 138, 3) := by decide +kernel
theorem d_198_14 : decode (mth 198).2.1 14 = .ok (.invokestatic 58, 3) := by decide +kernel
theorem d_198_17 : decode (mth 198).2.1 17 = .ok (.ifCond .eq 17, 3) := by decide +kernel
theorem d_198_20 : decode (mth 198).2.1 20 = .ok (.aload_n 0, 1) := by decide +kernel
theorem d_198_21 : decode (mth 198).2.1 21 = .ok (.bipush 35, 2) := by decide +kernel
theorem d_198_23 : decode (mth 198).2.1 23 = .ok (.iconst 5, 1) := by decide +kernel
theorem d_198_24 : decode (mth 198).2.1 24 = .ok (.iload_n 1, 1) := by decide +kernel
theorem d_198_25 : decode (mth 198).2.1 25 = .ok (.imul, 1) := by decide +kernel
theorem d_198_26 : decode (mth 198).2.1 26 = .ok (.iadd, 1) := by decide +kernel
theorem d_198_27 : decode (mth 198).2.1 27 = .ok (.iload_n 2, 1) := by decide +kernel
theorem d_198_28 : decode (mth 198).2.1 28 = .ok (.invokevirtual 147, 3) := by decide +kernel
theorem d_198_31 : decode (mth 198).2.1 31 = .ok (.goto 4, 3) := by decide +kernel
theorem d_198_34 : decode (mth 198).2.1 34 = .ok (.iconst (-1), 1) := by decide +kernel
theorem d_198_35 : decode (mth 198).2.1 35 = .ok (.ireturn, 1) := by decide +kernel
/-! 199 PlayedTruthModel.house(II)I -/
theorem d_199_0 : decode (mth 199).2.1 0 = .ok (.iload_n 1, 1) := by decide +kernel
theorem d_199_1 : decode (mth 199).2.1 1 = .ok (.i2l, 1) := by decide +kernel
theorem d_199_2 : decode (mth 199).2.1 2 = .ok (.lconst 0, 1) := by decide +kernel
theorem d_199_3 : decode (mth 199).2.1 3 = .ok (.ldc2_w 150, 3) := by decide +kernel
theorem d_199_6 : decode (mth 199).2.1 6 = .ok (.invokestatic 58, 3) := by decide +kernel
theorem d_199_9 : decode (mth 199).2.1 9 = .ok (.ifCond .eq 27, 3) := by decide +kernel
theorem d_199_12 : decode (mth 199).2.1 12 = .ok (.iload_n 2, 1) := by decide +kernel
theorem d_199_13 : decode (mth 199).2.1 13 = .ok (.i2l, 1) := by decide +kernel
theorem d_199_14 : decode (mth 199).2.1 14 = .ok (.lconst 0, 1) := by decide +kernel
theorem d_199_15 : decode (mth 199).2.1 15 = .ok (.ldc2_w 150, 3) := by decide +kernel
theorem d_199_18 : decode (mth 199).2.1 18 = .ok (.invokestatic 58, 3) := by decide +kernel
theorem d_199_21 : decode (mth 199).2.1 21 = .ok (.ifCond .eq 15, 3) := by decide +kernel
theorem d_199_24 : decode (mth 199).2.1 24 = .ok (.aload_n 0, 1) := by decide +kernel
theorem d_199_25 : decode (mth 199).2.1 25 = .ok (.bipush 7, 2) := by decide +kernel
theorem d_199_27 : decode (mth 199).2.1 27 = .ok (.iload_n 1, 1) := by decide +kernel
theorem d_199_28 : decode (mth 199).2.1 28 = .ok (.iadd, 1) := by decide +kernel
theorem d_199_29 : decode (mth 199).2.1 29 = .ok (.iload_n 2, 1) := by decide +kernel
theorem d_199_30 : decode (mth 199).2.1 30 = .ok (.invokevirtual 147, 3) := by decide +kernel
theorem d_199_33 : decode (mth 199).2.1 33 = .ok (.goto 4, 3) := by decide +kernel
theorem d_199_36 : decode (mth 199).2.1 36 = .ok (.iconst (-1), 1) := by decide +kernel
theorem d_199_37 : decode (mth 199).2.1 37 = .ok (.ireturn, 1) := by decide +kernel
/-! 200 PlayedTruthModel.place(III)I -/
theorem d_200_0 : decode (mth 200).2.1 0 = .ok (.iload_n 1, 1) := by decide +kernel
theorem d_200_1 : decode (mth 200).2.1 1 = .ok (.i2l, 1) := by decide +kernel
theorem d_200_2 : decode (mth 200).2.1 2 = .ok (.lconst 0, 1) := by decide +kernel
theorem d_200_3 : decode (mth 200).2.1 3 = .ok (.ldc2_w 138, 3) := by decide +kernel
theorem d_200_6 : decode (mth 200).2.1 6 = .ok (.invokestatic 58, 3) := by decide +kernel
theorem d_200_9 : decode (mth 200).2.1 9 = .ok (.ifCond .eq 42, 3) := by decide +kernel
theorem d_200_12 : decode (mth 200).2.1 12 = .ok (.iload_n 2, 1) := by decide +kernel
theorem d_200_13 : decode (mth 200).2.1 13 = .ok (.i2l, 1) := by decide +kernel
theorem d_200_14 : decode (mth 200).2.1 14 = .ok (.lconst 0, 1) := by decide +kernel
theorem d_200_15 : decode (mth 200).2.1 15 = .ok (.lconst 1, 1) := by decide +kernel
theorem d_200_16 : decode (mth 200).2.1 16 = .ok (.invokestatic 58, 3) := by decide +kernel
theorem d_200_19 : decode (mth 200).2.1 19 = .ok (.ifCond .eq 32, 3) := by decide +kernel
theorem d_200_22 : decode (mth 200).2.1 22 = .ok (.iload_n 3, 1) := by decide +kernel
theorem d_200_23 : decode (mth 200).2.1 23 = .ok (.i2l, 1) := by decide +kernel
theorem d_200_24 : decode (mth 200).2.1 24 = .ok (.lconst 0, 1) := by decide +kernel
theorem d_200_25 : decode (mth 200).2.1 25 = .ok (.ldc2_w 142, 3) := by decide +kernel
theorem d_200_28 : decode (mth 200).2.1 28 = .ok (.invokestatic 58, 3) := by decide +kernel
theorem d_200_31 : decode (mth 200).2.1 31 = .ok (.ifCond .eq 20, 3) := by decide +kernel
theorem d_200_34 : decode (mth 200).2.1 34 = .ok (.aload_n 0, 1) := by decide +kernel
theorem d_200_35 : decode (mth 200).2.1 35 = .ok (.bipush 23, 2) := by decide +kernel
theorem d_200_37 : decode (mth 200).2.1 37 = .ok (.bipush 6, 2) := by decide +kernel
theorem d_200_39 : decode (mth 200).2.1 39 = .ok (.iload_n 2, 1) := by decide +kernel
theorem d_200_40 : decode (mth 200).2.1 40 = .ok (.imul, 1) := by decide +kernel
theorem d_200_41 : decode (mth 200).2.1 41 = .ok (.iadd, 1) := by decide +kernel
theorem d_200_42 : decode (mth 200).2.1 42 = .ok (.iload_n 1, 1) := by decide +kernel
theorem d_200_43 : decode (mth 200).2.1 43 = .ok (.iadd, 1) := by decide +kernel
theorem d_200_44 : decode (mth 200).2.1 44 = .ok (.iload_n 3, 1) := by decide +kernel
theorem d_200_45 : decode (mth 200).2.1 45 = .ok (.invokevirtual 147, 3) := by decide +kernel
theorem d_200_48 : decode (mth 200).2.1 48 = .ok (.goto 4, 3) := by decide +kernel
theorem d_200_51 : decode (mth 200).2.1 51 = .ok (.iconst (-1), 1) := by decide +kernel
theorem d_200_52 : decode (mth 200).2.1 52 = .ok (.ireturn, 1) := by decide +kernel
/-! 201 PlayedTruthModel.placeOf(II)I -/
theorem d_201_0 : decode (mth 201).2.1 0 = .ok (.iload_n 1, 1) := by decide +kernel
theorem d_201_1 : decode (mth 201).2.1 1 = .ok (.i2l, 1) := by decide +kernel
theorem d_201_2 : decode (mth 201).2.1 2 = .ok (.lconst 0, 1) := by decide +kernel
theorem d_201_3 : decode (mth 201).2.1 3 = .ok (.ldc2_w 138, 3) := by decide +kernel
theorem d_201_6 : decode (mth 201).2.1 6 = .ok (.invokestatic 58, 3) := by decide +kernel
theorem d_201_9 : decode (mth 201).2.1 9 = .ok (.ifCond .eq 30, 3) := by decide +kernel
theorem d_201_12 : decode (mth 201).2.1 12 = .ok (.iload_n 2, 1) := by decide +kernel
theorem d_201_13 : decode (mth 201).2.1 13 = .ok (.i2l, 1) := by decide +kernel
theorem d_201_14 : decode (mth 201).2.1 14 = .ok (.lconst 0, 1) := by decide +kernel
theorem d_201_15 : decode (mth 201).2.1 15 = .ok (.lconst 1, 1) := by decide +kernel
theorem d_201_16 : decode (mth 201).2.1 16 = .ok (.invokestatic 58, 3) := by decide +kernel
theorem d_201_19 : decode (mth 201).2.1 19 = .ok (.ifCond .eq 20, 3) := by decide +kernel
theorem d_201_22 : decode (mth 201).2.1 22 = .ok (.aload_n 0, 1) := by decide +kernel
theorem d_201_23 : decode (mth 201).2.1 23 = .ok (.getfield 7, 3) := by decide +kernel
theorem d_201_26 : decode (mth 201).2.1 26 = .ok (.bipush 23, 2) := by decide +kernel
theorem d_201_28 : decode (mth 201).2.1 28 = .ok (.bipush 6, 2) := by decide +kernel
theorem d_201_30 : decode (mth 201).2.1 30 = .ok (.iload_n 2, 1) := by decide +kernel
theorem d_201_31 : decode (mth 201).2.1 31 = .ok (.imul, 1) := by decide +kernel
theorem d_201_32 : decode (mth 201).2.1 32 = .ok (.iadd, 1) := by decide +kernel
theorem d_201_33 : decode (mth 201).2.1 33 = .ok (.iload_n 1, 1) := by decide +kernel
theorem d_201_34 : decode (mth 201).2.1 34 = .ok (.iadd, 1) := by decide +kernel
theorem d_201_35 : decode (mth 201).2.1 35 = .ok (.iaload, 1) := by decide +kernel
theorem d_201_36 : decode (mth 201).2.1 36 = .ok (.goto 4, 3) := by decide +kernel
theorem d_201_39 : decode (mth 201).2.1 39 = .ok (.iconst (-1), 1) := by decide +kernel
theorem d_201_40 : decode (mth 201).2.1 40 = .ok (.ireturn, 1) := by decide +kernel
/-! 202 PlayedTruthModel.ends(I)I -/
theorem d_202_0 : decode (mth 202).2.1 0 = .ok (.iload_n 1, 1) := by decide +kernel
theorem d_202_1 : decode (mth 202).2.1 1 = .ok (.i2l, 1) := by decide +kernel
theorem d_202_2 : decode (mth 202).2.1 2 = .ok (.lconst 1, 1) := by decide +kernel
theorem d_202_3 : decode (mth 202).2.1 3 = .ok (.ldc2_w 152, 3) := by decide +kernel
theorem d_202_6 : decode (mth 202).2.1 6 = .ok (.invokestatic 58, 3) := by decide +kernel
theorem d_202_9 : decode (mth 202).2.1 9 = .ok (.ifCond .ne 5, 3) := by decide +kernel
theorem d_202_12 : decode (mth 202).2.1 12 = .ok (.iconst (-1), 1) := by decide +kernel
theorem d_202_13 : decode (mth 202).2.1 13 = .ok (.ireturn, 1) := by decide +kernel
theorem d_202_14 : decode (mth 202).2.1 14 = .ok (.iload_n 1, 1) := by decide +kernel
theorem d_202_15 : decode (mth 202).2.1 15 = .ok (.aload_n 0, 1) := by decide +kernel
theorem d_202_16 : decode (mth 202).2.1 16 = .ok (.getfield 7, 3) := by decide +kernel
theorem d_202_19 : decode (mth 202).2.1 19 = .ok (.iconst 1, 1) := by decide +kernel
theorem d_202_20 : decode (mth 202).2.1 20 = .ok (.iaload, 1) := by decide +kernel
theorem d_202_21 : decode (mth 202).2.1 21 = .ok (.if_icmp .ge 8, 3) := by decide +kernel
theorem d_202_24 : decode (mth 202).2.1 24 = .ok (.bipush (-4), 2) := by decide +kernel
theorem d_202_26 : decode (mth 202).2.1 26 = .ok (.goto 9, 3) := by decide +kernel
theorem d_202_29 : decode (mth 202).2.1 29 = .ok (.aload_n 0, 1) := by decide +kernel
theorem d_202_30 : decode (mth 202).2.1 30 = .ok (.iconst 2, 1) := by decide +kernel
theorem d_202_31 : decode (mth 202).2.1 31 = .ok (.iload_n 1, 1) := by decide +kernel
theorem d_202_32 : decode (mth 202).2.1 32 = .ok (.invokevirtual 147, 3) := by decide +kernel
theorem d_202_35 : decode (mth 202).2.1 35 = .ok (.ireturn, 1) := by decide +kernel
/-! 203 PlayedTruthModel.anew()I -/
theorem d_203_0 : decode (mth 203).2.1 0 = .ok (.aload_n 0, 1) := by decide +kernel
theorem d_203_1 : decode (mth 203).2.1 1 = .ok (.getfield 7, 3) := by decide +kernel
theorem d_203_4 : decode (mth 203).2.1 4 = .ok (.iconst 3, 1) := by decide +kernel
theorem d_203_5 : decode (mth 203).2.1 5 = .ok (.iconst 0, 1) := by decide +kernel
theorem d_203_6 : decode (mth 203).2.1 6 = .ok (.iastore, 1) := by decide +kernel
theorem d_203_7 : decode (mth 203).2.1 7 = .ok (.iconst 0, 1) := by decide +kernel
theorem d_203_8 : decode (mth 203).2.1 8 = .ok (.istore_n 1, 1) := by decide +kernel
theorem d_203_9 : decode (mth 203).2.1 9 = .ok (.iload_n 1, 1) := by decide +kernel
theorem d_203_10 : decode (mth 203).2.1 10 = .ok (.aload_n 0, 1) := by decide +kernel
theorem d_203_11 : decode (mth 203).2.1 11 = .ok (.getfield 7, 3) := by decide +kernel
theorem d_203_14 : decode (mth 203).2.1 14 = .ok (.iconst 0, 1) := by decide +kernel
theorem d_203_15 : decode (mth 203).2.1 15 = .ok (.iaload, 1) := by decide +kernel
theorem d_203_16 : decode (mth 203).2.1 16 = .ok (.if_icmp .ge 16, 3) := by decide +kernel
theorem d_203_19 : decode (mth 203).2.1 19 = .ok (.aload_n 0, 1) := by decide +kernel
theorem d_203_20 : decode (mth 203).2.1 20 = .ok (.iload_n 1, 1) := by decide +kernel
theorem d_203_21 : decode (mth 203).2.1 21 = .ok (.iconst 4, 1) := by decide +kernel
theorem d_203_22 : decode (mth 203).2.1 22 = .ok (.iconst 0, 1) := by decide +kernel
theorem d_203_23 : decode (mth 203).2.1 23 = .ok (.invokevirtual 114, 3) := by decide +kernel
theorem d_203_26 : decode (mth 203).2.1 26 = .ok (.iinc 1 1, 3) := by decide +kernel
theorem d_203_29 : decode (mth 203).2.1 29 = .ok (.goto (-20), 3) := by decide +kernel
theorem d_203_32 : decode (mth 203).2.1 32 = .ok (.aload_n 0, 1) := by decide +kernel
theorem d_203_33 : decode (mth 203).2.1 33 = .ok (.iconst 1, 1) := by decide +kernel
theorem d_203_34 : decode (mth 203).2.1 34 = .ok (.iconst 0, 1) := by decide +kernel
theorem d_203_35 : decode (mth 203).2.1 35 = .ok (.invokevirtual 147, 3) := by decide +kernel
theorem d_203_38 : decode (mth 203).2.1 38 = .ok (.ireturn, 1) := by decide +kernel
/-! 204 PlayedTruthModel.state(I)I -/
theorem d_204_0 : decode (mth 204).2.1 0 = .ok (.iload_n 1, 1) := by decide +kernel
theorem d_204_1 : decode (mth 204).2.1 1 = .ok (.tableswitch 98 0 6 #[43, 50, 57, 64, 77, 82, 93], 43) := by decide +kernel
theorem d_204_44 : decode (mth 204).2.1 44 = .ok (.aload_n 0, 1) := by decide +kernel
theorem d_204_45 : decode (mth 204).2.1 45 = .ok (.getfield 7, 3) := by decide +kernel
theorem d_204_48 : decode (mth 204).2.1 48 = .ok (.iconst 1, 1) := by decide +kernel
theorem d_204_49 : decode (mth 204).2.1 49 = .ok (.iaload, 1) := by decide +kernel
theorem d_204_50 : decode (mth 204).2.1 50 = .ok (.ireturn, 1) := by decide +kernel
theorem d_204_51 : decode (mth 204).2.1 51 = .ok (.aload_n 0, 1) := by decide +kernel
theorem d_204_52 : decode (mth 204).2.1 52 = .ok (.getfield 7, 3) := by decide +kernel
theorem d_204_55 : decode (mth 204).2.1 55 = .ok (.iconst 2, 1) := by decide +kernel
theorem d_204_56 : decode (mth 204).2.1 56 = .ok (.iaload, 1) := by decide +kernel
theorem d_204_57 : decode (mth 204).2.1 57 = .ok (.ireturn, 1) := by decide +kernel
theorem d_204_58 : decode (mth 204).2.1 58 = .ok (.aload_n 0, 1) := by decide +kernel
theorem d_204_59 : decode (mth 204).2.1 59 = .ok (.getfield 7, 3) := by decide +kernel
theorem d_204_62 : decode (mth 204).2.1 62 = .ok (.iconst 3, 1) := by decide +kernel
theorem d_204_63 : decode (mth 204).2.1 63 = .ok (.iaload, 1) := by decide +kernel
theorem d_204_64 : decode (mth 204).2.1 64 = .ok (.ireturn, 1) := by decide +kernel
theorem d_204_65 : decode (mth 204).2.1 65 = .ok (.aload_n 0, 1) := by decide +kernel
theorem d_204_66 : decode (mth 204).2.1 66 = .ok (.invokevirtual 128, 3) := by decide +kernel
theorem d_204_69 : decode (mth 204).2.1 69 = .ok (.ifCond .eq 7, 3) := by decide +kernel
theorem d_204_72 : decode (mth 204).2.1 72 = .ok (.iconst 1, 1) := by decide +kernel
theorem d_204_73 : decode (mth 204).2.1 73 = .ok (.goto 4, 3) := by decide +kernel
theorem d_204_76 : decode (mth 204).2.1 76 = .ok (.iconst 0, 1) := by decide +kernel
theorem d_204_77 : decode (mth 204).2.1 77 = .ok (.ireturn, 1) := by decide +kernel
theorem d_204_78 : decode (mth 204).2.1 78 = .ok (.aload_n 0, 1) := by decide +kernel
theorem d_204_79 : decode (mth 204).2.1 79 = .ok (.invokevirtual 154, 3) := by decide +kernel
theorem d_204_82 : decode (mth 204).2.1 82 = .ok (.ireturn, 1) := by decide +kernel
theorem d_204_83 : decode (mth 204).2.1 83 = .ok (.aload_n 0, 1) := by decide +kernel
theorem d_204_84 : decode (mth 204).2.1 84 = .ok (.aload_n 0, 1) := by decide +kernel
theorem d_204_85 : decode (mth 204).2.1 85 = .ok (.getfield 7, 3) := by decide +kernel
theorem d_204_88 : decode (mth 204).2.1 88 = .ok (.iconst 1, 1) := by decide +kernel
theorem d_204_89 : decode (mth 204).2.1 89 = .ok (.iaload, 1) := by decide +kernel
theorem d_204_90 : decode (mth 204).2.1 90 = .ok (.invokevirtual 69, 3) := by decide +kernel
theorem d_204_93 : decode (mth 204).2.1 93 = .ok (.ireturn, 1) := by decide +kernel
theorem d_204_94 : decode (mth 204).2.1 94 = .ok (.aload_n 0, 1) := by decide +kernel
theorem d_204_95 : decode (mth 204).2.1 95 = .ok (.invokevirtual 157, 3) := by decide +kernel
theorem d_204_98 : decode (mth 204).2.1 98 = .ok (.ireturn, 1) := by decide +kernel
theorem d_204_99 : decode (mth 204).2.1 99 = .ok (.iconst (-1), 1) := by decide +kernel
theorem d_204_100 : decode (mth 204).2.1 100 = .ok (.ireturn, 1) := by decide +kernel
/-! 205 PlayedTruthModel.isOver()Z -/
theorem d_205_0 : decode (mth 205).2.1 0 = .ok (.aload_n 0, 1) := by decide +kernel
theorem d_205_1 : decode (mth 205).2.1 1 = .ok (.getfield 7, 3) := by decide +kernel
theorem d_205_4 : decode (mth 205).2.1 4 = .ok (.iconst 1, 1) := by decide +kernel
theorem d_205_5 : decode (mth 205).2.1 5 = .ok (.iaload, 1) := by decide +kernel
theorem d_205_6 : decode (mth 205).2.1 6 = .ok (.aload_n 0, 1) := by decide +kernel
theorem d_205_7 : decode (mth 205).2.1 7 = .ok (.getfield 7, 3) := by decide +kernel
theorem d_205_10 : decode (mth 205).2.1 10 = .ok (.iconst 2, 1) := by decide +kernel
theorem d_205_11 : decode (mth 205).2.1 11 = .ok (.iaload, 1) := by decide +kernel
theorem d_205_12 : decode (mth 205).2.1 12 = .ok (.if_icmp .lt 7, 3) := by decide +kernel
theorem d_205_15 : decode (mth 205).2.1 15 = .ok (.iconst 1, 1) := by decide +kernel
theorem d_205_16 : decode (mth 205).2.1 16 = .ok (.goto 4, 3) := by decide +kernel
theorem d_205_19 : decode (mth 205).2.1 19 = .ok (.iconst 0, 1) := by decide +kernel
theorem d_205_20 : decode (mth 205).2.1 20 = .ok (.ireturn, 1) := by decide +kernel
/-! 206 PlayedTruthModel.settled()I -/
theorem d_206_0 : decode (mth 206).2.1 0 = .ok (.iconst 0, 1) := by decide +kernel
theorem d_206_1 : decode (mth 206).2.1 1 = .ok (.istore_n 1, 1) := by decide +kernel
theorem d_206_2 : decode (mth 206).2.1 2 = .ok (.iconst 0, 1) := by decide +kernel
theorem d_206_3 : decode (mth 206).2.1 3 = .ok (.istore_n 2, 1) := by decide +kernel
theorem d_206_4 : decode (mth 206).2.1 4 = .ok (.iload_n 2, 1) := by decide +kernel
theorem d_206_5 : decode (mth 206).2.1 5 = .ok (.aload_n 0, 1) := by decide +kernel
theorem d_206_6 : decode (mth 206).2.1 6 = .ok (.getfield 7, 3) := by decide +kernel
theorem d_206_9 : decode (mth 206).2.1 9 = .ok (.iconst 0, 1) := by decide +kernel
theorem d_206_10 : decode (mth 206).2.1 10 = .ok (.iaload, 1) := by decide +kernel
theorem d_206_11 : decode (mth 206).2.1 11 = .ok (.if_icmp .ge 20, 3) := by decide +kernel
theorem d_206_14 : decode (mth 206).2.1 14 = .ok (.iload_n 1, 1) := by decide +kernel
theorem d_206_15 : decode (mth 206).2.1 15 = .ok (.aload_n 0, 1) := by decide +kernel
theorem d_206_16 : decode (mth 206).2.1 16 = .ok (.iload_n 2, 1) := by decide +kernel
theorem d_206_17 : decode (mth 206).2.1 17 = .ok (.iconst 4, 1) := by decide +kernel
theorem d_206_18 : decode (mth 206).2.1 18 = .ok (.invokevirtual 77, 3) := by decide +kernel
theorem d_206_21 : decode (mth 206).2.1 21 = .ok (.iload_n 2, 1) := by decide +kernel
theorem d_206_22 : decode (mth 206).2.1 22 = .ok (.ishl, 1) := by decide +kernel
theorem d_206_23 : decode (mth 206).2.1 23 = .ok (.ior, 1) := by decide +kernel
theorem d_206_24 : decode (mth 206).2.1 24 = .ok (.istore_n 1, 1) := by decide +kernel
theorem d_206_25 : decode (mth 206).2.1 25 = .ok (.iinc 2 1, 3) := by decide +kernel
theorem d_206_28 : decode (mth 206).2.1 28 = .ok (.goto (-24), 3) := by decide +kernel
theorem d_206_31 : decode (mth 206).2.1 31 = .ok (.iload_n 1, 1) := by decide +kernel
theorem d_206_32 : decode (mth 206).2.1 32 = .ok (.ireturn, 1) := by decide +kernel
/-! 207 PlayedTruthModel.truthAll()I -/
theorem d_207_0 : decode (mth 207).2.1 0 = .ok (.iconst 0, 1) := by decide +kernel
theorem d_207_1 : decode (mth 207).2.1 1 = .ok (.istore_n 1, 1) := by decide +kernel
theorem d_207_2 : decode (mth 207).2.1 2 = .ok (.iconst 0, 1) := by decide +kernel
theorem d_207_3 : decode (mth 207).2.1 3 = .ok (.istore_n 2, 1) := by decide +kernel
theorem d_207_4 : decode (mth 207).2.1 4 = .ok (.iload_n 2, 1) := by decide +kernel
theorem d_207_5 : decode (mth 207).2.1 5 = .ok (.aload_n 0, 1) := by decide +kernel
theorem d_207_6 : decode (mth 207).2.1 6 = .ok (.getfield 7, 3) := by decide +kernel
theorem d_207_9 : decode (mth 207).2.1 9 = .ok (.iconst 0, 1) := by decide +kernel
theorem d_207_10 : decode (mth 207).2.1 10 = .ok (.iaload, 1) := by decide +kernel
theorem d_207_11 : decode (mth 207).2.1 11 = .ok (.if_icmp .ge 18, 3) := by decide +kernel
theorem d_207_14 : decode (mth 207).2.1 14 = .ok (.iload_n 1, 1) := by decide +kernel
theorem d_207_15 : decode (mth 207).2.1 15 = .ok (.aload_n 0, 1) := by decide +kernel
theorem d_207_16 : decode (mth 207).2.1 16 = .ok (.iload_n 2, 1) := by decide +kernel
theorem d_207_17 : decode (mth 207).2.1 17 = .ok (.iconst 1, 1) := by decide +kernel
theorem d_207_18 : decode (mth 207).2.1 18 = .ok (.invokevirtual 77, 3) := by decide +kernel
theorem d_207_21 : decode (mth 207).2.1 21 = .ok (.iadd, 1) := by decide +kernel
theorem d_207_22 : decode (mth 207).2.1 22 = .ok (.istore_n 1, 1) := by decide +kernel
theorem d_207_23 : decode (mth 207).2.1 23 = .ok (.iinc 2 1, 3) := by decide +kernel
theorem d_207_26 : decode (mth 207).2.1 26 = .ok (.goto (-22), 3) := by decide +kernel
theorem d_207_29 : decode (mth 207).2.1 29 = .ok (.iload_n 1, 1) := by decide +kernel
theorem d_207_30 : decode (mth 207).2.1 30 = .ok (.ireturn, 1) := by decide +kernel
/-! 208 PlayedTruthModel.feed(JI)I -/
theorem d_208_0 : decode (mth 208).2.1 0 = .ok (.iload_n 3, 1) := by decide +kernel
theorem d_208_1 : decode (mth 208).2.1 1 = .ok (.i2l, 1) := by decide +kernel
theorem d_208_2 : decode (mth 208).2.1 2 = .ok (.lconst 1, 1) := by decide +kernel
theorem d_208_3 : decode (mth 208).2.1 3 = .ok (.ldc2_w 160, 3) := by decide +kernel
theorem d_208_6 : decode (mth 208).2.1 6 = .ok (.invokestatic 58, 3) := by decide +kernel
theorem d_208_9 : decode (mth 208).2.1 9 = .ok (.ifCond .ne 5, 3) := by decide +kernel
theorem d_208_12 : decode (mth 208).2.1 12 = .ok (.iconst (-1), 1) := by decide +kernel
theorem d_208_13 : decode (mth 208).2.1 13 = .ok (.ireturn, 1) := by decide +kernel
theorem d_208_14 : decode (mth 208).2.1 14 = .ok (.aload_n 0, 1) := by decide +kernel
theorem d_208_15 : decode (mth 208).2.1 15 = .ok (.getfield 162, 3) := by decide +kernel
theorem d_208_18 : decode (mth 208).2.1 18 = .ok (.iload_n 3, 1) := by decide +kernel
theorem d_208_19 : decode (mth 208).2.1 19 = .ok (.iadd, 1) := by decide +kernel
theorem d_208_20 : decode (mth 208).2.1 20 = .ok (.sipush 200, 3) := by decide +kernel
theorem d_208_23 : decode (mth 208).2.1 23 = .ok (.if_icmp .le 6, 3) := by decide +kernel
theorem d_208_26 : decode (mth 208).2.1 26 = .ok (.bipush (-2), 2) := by decide +kernel
theorem d_208_28 : decode (mth 208).2.1 28 = .ok (.ireturn, 1) := by decide +kernel
theorem d_208_29 : decode (mth 208).2.1 29 = .ok (.iconst 0, 1) := by decide +kernel
theorem d_208_30 : decode (mth 208).2.1 30 = .ok (.istore 4, 2) := by decide +kernel
theorem d_208_32 : decode (mth 208).2.1 32 = .ok (.iload 4, 2) := by decide +kernel
theorem d_208_34 : decode (mth 208).2.1 34 = .ok (.iload_n 3, 1) := by decide +kernel
theorem d_208_35 : decode (mth 208).2.1 35 = .ok (.if_icmp .ge 40, 3) := by decide +kernel
theorem d_208_38 : decode (mth 208).2.1 38 = .ok (.aload_n 0, 1) := by decide +kernel
theorem d_208_39 : decode (mth 208).2.1 39 = .ok (.getfield 22, 3) := by decide +kernel
theorem d_208_42 : decode (mth 208).2.1 42 = .ok (.aload_n 0, 1) := by decide +kernel
theorem d_208_43 : decode (mth 208).2.1 43 = .ok (.getfield 162, 3) := by decide +kernel
theorem d_208_46 : decode (mth 208).2.1 46 = .ok (.lload_n 1, 1) := by decide +kernel
theorem d_208_47 : decode (mth 208).2.1 47 = .ok (.bipush 8, 2) := by decide +kernel
theorem d_208_49 : decode (mth 208).2.1 49 = .ok (.iload 4, 2) := by decide +kernel
theorem d_208_51 : decode (mth 208).2.1 51 = .ok (.imul, 1) := by decide +kernel
theorem d_208_52 : decode (mth 208).2.1 52 = .ok (.lshr, 1) := by decide +kernel
theorem d_208_53 : decode (mth 208).2.1 53 = .ok (.ldc2_w 165, 3) := by decide +kernel
theorem d_208_56 : decode (mth 208).2.1 56 = .ok (.land, 1) := by decide +kernel
theorem d_208_57 : decode (mth 208).2.1 57 = .ok (.l2i, 1) := by decide +kernel
theorem d_208_58 : decode (mth 208).2.1 58 = .ok (.iastore, 1) := by decide +kernel
theorem d_208_59 : decode (mth 208).2.1 59 = .ok (.aload_n 0, 1) := by decide +kernel
theorem d_208_60 : decode (mth 208).2.1 60 = .ok (.dup, 1) := by decide +kernel
theorem d_208_61 : decode (mth 208).2.1 61 = .ok (.getfield 162, 3) := by decide +kernel
theorem d_208_64 : decode (mth 208).2.1 64 = .ok (.iconst 1, 1) := by decide +kernel
theorem d_208_65 : decode (mth 208).2.1 65 = .ok (.iadd, 1) := by decide +kernel
theorem d_208_66 : decode (mth 208).2.1 66 = .ok (.putfield 162, 3) := by decide +kernel
theorem d_208_69 : decode (mth 208).2.1 69 = .ok (.iinc 4 1, 3) := by decide +kernel
theorem d_208_72 : decode (mth 208).2.1 72 = .ok (.goto (-40), 3) := by decide +kernel
theorem d_208_75 : decode (mth 208).2.1 75 = .ok (.aload_n 0, 1) := by decide +kernel
theorem d_208_76 : decode (mth 208).2.1 76 = .ok (.getfield 162, 3) := by decide +kernel
theorem d_208_79 : decode (mth 208).2.1 79 = .ok (.ireturn, 1) := by decide +kernel
/-! 209 PlayedTruthModel.rules()I -/
theorem d_209_0 : decode (mth 209).2.1 0 = .ok (.aload_n 0, 1) := by decide +kernel
theorem d_209_1 : decode (mth 209).2.1 1 = .ok (.iconst 0, 1) := by decide +kernel
theorem d_209_2 : decode (mth 209).2.1 2 = .ok (.putfield 167, 3) := by decide +kernel
theorem d_209_5 : decode (mth 209).2.1 5 = .ok (.aload_n 0, 1) := by decide +kernel
theorem d_209_6 : decode (mth 209).2.1 6 = .ok (.iconst 0, 1) := by decide +kernel
theorem d_209_7 : decode (mth 209).2.1 7 = .ok (.putfield 196, 3) := by decide +kernel
theorem d_209_10 : decode (mth 209).2.1 10 = .ok (.aload_n 0, 1) := by decide +kernel
theorem d_209_11 : decode (mth 209).2.1 11 = .ok (.iconst 0, 1) := by decide +kernel
theorem d_209_12 : decode (mth 209).2.1 12 = .ok (.putfield 255, 3) := by decide +kernel
theorem d_209_15 : decode (mth 209).2.1 15 = .ok (.aload_n 0, 1) := by decide +kernel
theorem d_209_16 : decode (mth 209).2.1 16 = .ok (.iconst 0, 1) := by decide +kernel
theorem d_209_17 : decode (mth 209).2.1 17 = .ok (.putfield 200, 3) := by decide +kernel
theorem d_209_20 : decode (mth 209).2.1 20 = .ok (.aload_n 0, 1) := by decide +kernel
theorem d_209_21 : decode (mth 209).2.1 21 = .ok (.iconst 0, 1) := by decide +kernel
theorem d_209_22 : decode (mth 209).2.1 22 = .ok (.putfield 277, 3) := by decide +kernel
theorem d_209_25 : decode (mth 209).2.1 25 = .ok (.aload_n 0, 1) := by decide +kernel
theorem d_209_26 : decode (mth 209).2.1 26 = .ok (.invokevirtual 235, 3) := by decide +kernel
theorem d_209_29 : decode (mth 209).2.1 29 = .ok (.aload_n 0, 1) := by decide +kernel
theorem d_209_30 : decode (mth 209).2.1 30 = .ok (.getfield 177, 3) := by decide +kernel
theorem d_209_33 : decode (mth 209).2.1 33 = .ok (.ifCond .eq 17, 3) := by decide +kernel
theorem d_209_36 : decode (mth 209).2.1 36 = .ok (.aload_n 0, 1) := by decide +kernel
theorem d_209_37 : decode (mth 209).2.1 37 = .ok (.getfield 196, 3) := by decide +kernel
theorem d_209_40 : decode (mth 209).2.1 40 = .ok (.ifCond .ne 10, 3) := by decide +kernel
theorem d_209_43 : decode (mth 209).2.1 43 = .ok (.aload_n 0, 1) := by decide +kernel
theorem d_209_44 : decode (mth 209).2.1 44 = .ok (.invokevirtual 285, 3) := by decide +kernel
theorem d_209_47 : decode (mth 209).2.1 47 = .ok (.goto (-18), 3) := by decide +kernel
theorem d_209_50 : decode (mth 209).2.1 50 = .ok (.aload_n 0, 1) := by decide +kernel
theorem d_209_51 : decode (mth 209).2.1 51 = .ok (.iconst 0, 1) := by decide +kernel
theorem d_209_52 : decode (mth 209).2.1 52 = .ok (.putfield 162, 3) := by decide +kernel
theorem d_209_55 : decode (mth 209).2.1 55 = .ok (.aload_n 0, 1) := by decide +kernel
theorem d_209_56 : decode (mth 209).2.1 56 = .ok (.getfield 196, 3) := by decide +kernel
theorem d_209_59 : decode (mth 209).2.1 59 = .ok (.ifCond .eq 11, 3) := by decide +kernel
theorem d_209_62 : decode (mth 209).2.1 62 = .ok (.bipush (-100), 2) := by decide +kernel
theorem d_209_64 : decode (mth 209).2.1 64 = .ok (.aload_n 0, 1) := by decide +kernel
theorem d_209_65 : decode (mth 209).2.1 65 = .ok (.getfield 170, 3) := by decide +kernel
theorem d_209_68 : decode (mth 209).2.1 68 = .ok (.isub, 1) := by decide +kernel
theorem d_209_69 : decode (mth 209).2.1 69 = .ok (.ireturn, 1) := by decide +kernel
theorem d_209_70 : decode (mth 209).2.1 70 = .ok (.aload_n 0, 1) := by decide +kernel
theorem d_209_71 : decode (mth 209).2.1 71 = .ok (.getfield 7, 3) := by decide +kernel
theorem d_209_74 : decode (mth 209).2.1 74 = .ok (.iconst 5, 1) := by decide +kernel
theorem d_209_75 : decode (mth 209).2.1 75 = .ok (.aload_n 0, 1) := by decide +kernel
theorem d_209_76 : decode (mth 209).2.1 76 = .ok (.getfield 277, 3) := by decide +kernel
theorem d_209_79 : decode (mth 209).2.1 79 = .ok (.iastore, 1) := by decide +kernel
theorem d_209_80 : decode (mth 209).2.1 80 = .ok (.iconst 0, 1) := by decide +kernel
theorem d_209_81 : decode (mth 209).2.1 81 = .ok (.istore_n 1, 1) := by decide +kernel
theorem d_209_82 : decode (mth 209).2.1 82 = .ok (.iload_n 1, 1) := by decide +kernel
theorem d_209_83 : decode (mth 209).2.1 83 = .ok (.bipush 32, 2) := by decide +kernel
theorem d_209_85 : decode (mth 209).2.1 85 = .ok (.if_icmp .ge 24, 3) := by decide +kernel
theorem d_209_88 : decode (mth 209).2.1 88 = .ok (.aload_n 0, 1) := by decide +kernel
theorem d_209_89 : decode (mth 209).2.1 89 = .ok (.getfield 7, 3) := by decide +kernel
theorem d_209_92 : decode (mth 209).2.1 92 = .ok (.bipush 89, 2) := by decide +kernel
theorem d_209_94 : decode (mth 209).2.1 94 = .ok (.iload_n 1, 1) := by decide +kernel
theorem d_209_95 : decode (mth 209).2.1 95 = .ok (.iadd, 1) := by decide +kernel
theorem d_209_96 : decode (mth 209).2.1 96 = .ok (.aload_n 0, 1) := by decide +kernel
theorem d_209_97 : decode (mth 209).2.1 97 = .ok (.getfield 28, 3) := by decide +kernel
theorem d_209_100 : decode (mth 209).2.1 100 = .ok (.iload_n 1, 1) := by decide +kernel
theorem d_209_101 : decode (mth 209).2.1 101 = .ok (.iaload, 1) := by decide +kernel
theorem d_209_102 : decode (mth 209).2.1 102 = .ok (.iastore, 1) := by decide +kernel
theorem d_209_103 : decode (mth 209).2.1 103 = .ok (.iinc 1 1, 3) := by decide +kernel
theorem d_209_106 : decode (mth 209).2.1 106 = .ok (.goto (-24), 3) := by decide +kernel
theorem d_209_109 : decode (mth 209).2.1 109 = .ok (.iconst 0, 1) := by decide +kernel
theorem d_209_110 : decode (mth 209).2.1 110 = .ok (.istore_n 1, 1) := by decide +kernel
theorem d_209_111 : decode (mth 209).2.1 111 = .ok (.iload_n 1, 1) := by decide +kernel
theorem d_209_112 : decode (mth 209).2.1 112 = .ok (.aload_n 0, 1) := by decide +kernel
theorem d_209_113 : decode (mth 209).2.1 113 = .ok (.getfield 200, 3) := by decide +kernel
theorem d_209_116 : decode (mth 209).2.1 116 = .ok (.if_icmp .ge 24, 3) := by decide +kernel
theorem d_209_119 : decode (mth 209).2.1 119 = .ok (.aload_n 0, 1) := by decide +kernel
theorem d_209_120 : decode (mth 209).2.1 120 = .ok (.getfield 7, 3) := by decide +kernel
theorem d_209_123 : decode (mth 209).2.1 123 = .ok (.bipush 121, 2) := by decide +kernel
theorem d_209_125 : decode (mth 209).2.1 125 = .ok (.iload_n 1, 1) := by decide +kernel
theorem d_209_126 : decode (mth 209).2.1 126 = .ok (.iadd, 1) := by decide +kernel
theorem d_209_127 : decode (mth 209).2.1 127 = .ok (.aload_n 0, 1) := by decide +kernel
theorem d_209_128 : decode (mth 209).2.1 128 = .ok (.getfield 25, 3) := by decide +kernel
theorem d_209_131 : decode (mth 209).2.1 131 = .ok (.iload_n 1, 1) := by decide +kernel
theorem d_209_132 : decode (mth 209).2.1 132 = .ok (.iaload, 1) := by decide +kernel
theorem d_209_133 : decode (mth 209).2.1 133 = .ok (.iastore, 1) := by decide +kernel
theorem d_209_134 : decode (mth 209).2.1 134 = .ok (.iinc 1 1, 3) := by decide +kernel
theorem d_209_137 : decode (mth 209).2.1 137 = .ok (.goto (-26), 3) := by decide +kernel
theorem d_209_140 : decode (mth 209).2.1 140 = .ok (.aload_n 0, 1) := by decide +kernel
theorem d_209_141 : decode (mth 209).2.1 141 = .ok (.getfield 277, 3) := by decide +kernel
theorem d_209_144 : decode (mth 209).2.1 144 = .ok (.ireturn, 1) := by decide +kernel
/-! 210 PlayedTruthModel.next()V -/
theorem d_210_0 : decode (mth 210).2.1 0 = .ok (.aload_n 0, 1) := by decide +kernel
theorem d_210_1 : decode (mth 210).2.1 1 = .ok (.getfield 167, 3) := by decide +kernel
theorem d_210_4 : decode (mth 210).2.1 4 = .ok (.aload_n 0, 1) := by decide +kernel
theorem d_210_5 : decode (mth 210).2.1 5 = .ok (.getfield 162, 3) := by decide +kernel
theorem d_210_8 : decode (mth 210).2.1 8 = .ok (.if_icmp .ge 30, 3) := by decide +kernel
theorem d_210_11 : decode (mth 210).2.1 11 = .ok (.aload_n 0, 1) := by decide +kernel
theorem d_210_12 : decode (mth 210).2.1 12 = .ok (.getfield 22, 3) := by decide +kernel
theorem d_210_15 : decode (mth 210).2.1 15 = .ok (.aload_n 0, 1) := by decide +kernel
theorem d_210_16 : decode (mth 210).2.1 16 = .ok (.getfield 167, 3) := by decide +kernel
theorem d_210_19 : decode (mth 210).2.1 19 = .ok (.iaload, 1) := by decide +kernel
theorem d_210_20 : decode (mth 210).2.1 20 = .ok (.bipush 32, 2) := by decide +kernel
theorem d_210_22 : decode (mth 210).2.1 22 = .ok (.if_icmp .ne 16, 3) := by decide +kernel
theorem d_210_25 : decode (mth 210).2.1 25 = .ok (.aload_n 0, 1) := by decide +kernel
theorem d_210_26 : decode (mth 210).2.1 26 = .ok (.dup, 1) := by decide +kernel
theorem d_210_27 : decode (mth 210).2.1 27 = .ok (.getfield 167, 3) := by decide +kernel
theorem d_210_30 : decode (mth 210).2.1 30 = .ok (.iconst 1, 1) := by decide +kernel
theorem d_210_31 : decode (mth 210).2.1 31 = .ok (.iadd, 1) := by decide +kernel
theorem d_210_32 : decode (mth 210).2.1 32 = .ok (.putfield 167, 3) := by decide +kernel
theorem d_210_35 : decode (mth 210).2.1 35 = .ok (.goto (-35), 3) := by decide +kernel
theorem d_210_38 : decode (mth 210).2.1 38 = .ok (.aload_n 0, 1) := by decide +kernel
theorem d_210_39 : decode (mth 210).2.1 39 = .ok (.aload_n 0, 1) := by decide +kernel
theorem d_210_40 : decode (mth 210).2.1 40 = .ok (.getfield 167, 3) := by decide +kernel
theorem d_210_43 : decode (mth 210).2.1 43 = .ok (.putfield 170, 3) := by decide +kernel
theorem d_210_46 : decode (mth 210).2.1 46 = .ok (.aload_n 0, 1) := by decide +kernel
theorem d_210_47 : decode (mth 210).2.1 47 = .ok (.lconst 0, 1) := by decide +kernel
theorem d_210_48 : decode (mth 210).2.1 48 = .ok (.putfield 173, 3) := by decide +kernel
theorem d_210_51 : decode (mth 210).2.1 51 = .ok (.aload_n 0, 1) := by decide +kernel
theorem d_210_52 : decode (mth 210).2.1 52 = .ok (.getfield 167, 3) := by decide +kernel
theorem d_210_55 : decode (mth 210).2.1 55 = .ok (.aload_n 0, 1) := by decide +kernel
theorem d_210_56 : decode (mth 210).2.1 56 = .ok (.getfield 162, 3) := by decide +kernel
theorem d_210_59 : decode (mth 210).2.1 59 = .ok (.if_icmp .ne 11, 3) := by decide +kernel
theorem d_210_62 : decode (mth 210).2.1 62 = .ok (.aload_n 0, 1) := by decide +kernel
theorem d_210_63 : decode (mth 210).2.1 63 = .ok (.iconst 0, 1) := by decide +kernel
theorem d_210_64 : decode (mth 210).2.1 64 = .ok (.putfield 177, 3) := by decide +kernel
theorem d_210_67 : decode (mth 210).2.1 67 = .ok (.goto 268, 3) := by decide +kernel
theorem d_210_70 : decode (mth 210).2.1 70 = .ok (.aload_n 0, 1) := by decide +kernel
theorem d_210_71 : decode (mth 210).2.1 71 = .ok (.bipush 97, 2) := by decide +kernel
theorem d_210_73 : decode (mth 210).2.1 73 = .ok (.bipush 122, 2) := by decide +kernel
theorem d_210_75 : decode (mth 210).2.1 75 = .ok (.invokevirtual 180, 3) := by decide +kernel
theorem d_210_78 : decode (mth 210).2.1 78 = .ok (.ifCond .eq 112, 3) := by decide +kernel
theorem d_210_81 : decode (mth 210).2.1 81 = .ok (.aload_n 0, 1) := by decide +kernel
theorem d_210_82 : decode (mth 210).2.1 82 = .ok (.iconst 1, 1) := by decide +kernel
theorem d_210_83 : decode (mth 210).2.1 83 = .ok (.putfield 177, 3) := by decide +kernel
theorem d_210_86 : decode (mth 210).2.1 86 = .ok (.aload_n 0, 1) := by decide +kernel
theorem d_210_87 : decode (mth 210).2.1 87 = .ok (.bipush 97, 2) := by decide +kernel
theorem d_210_89 : decode (mth 210).2.1 89 = .ok (.bipush 122, 2) := by decide +kernel
theorem d_210_91 : decode (mth 210).2.1 91 = .ok (.invokevirtual 180, 3) := by decide +kernel
theorem d_210_94 : decode (mth 210).2.1 94 = .ok (.ifCond .eq 65, 3) := by decide +kernel
theorem d_210_97 : decode (mth 210).2.1 97 = .ok (.aload_n 0, 1) := by decide +kernel
theorem d_210_98 : decode (mth 210).2.1 98 = .ok (.aload_n 0, 1) := by decide +kernel
theorem d_210_99 : decode (mth 210).2.1 99 = .ok (.getfield 167, 3) := by decide +kernel
theorem d_210_102 : decode (mth 210).2.1 102 = .ok (.aload_n 0, 1) := by decide +kernel
theorem d_210_103 : decode (mth 210).2.1 103 = .ok (.getfield 170, 3) := by decide +kernel
theorem d_210_106 : decode (mth 210).2.1 106 = .ok (.isub, 1) := by decide +kernel
theorem d_210_107 : decode (mth 210).2.1 107 = .ok (.bipush 7, 2) := by decide +kernel
theorem d_210_109 : decode (mth 210).2.1 109 = .ok (.if_icmp .ge 31, 3) := by decide +kernel
theorem d_210_112 : decode (mth 210).2.1 112 = .ok (.ldc2_w 184, 3) := by decide +kernel
theorem d_210_115 : decode (mth 210).2.1 115 = .ok (.aload_n 0, 1) := by decide +kernel
theorem d_210_116 : decode (mth 210).2.1 116 = .ok (.getfield 173, 3) := by decide +kernel
theorem d_210_119 : decode (mth 210).2.1 119 = .ok (.lmul, 1) := by decide +kernel
theorem d_210_120 : decode (mth 210).2.1 120 = .ok (.aload_n 0, 1) := by decide +kernel
theorem d_210_121 : decode (mth 210).2.1 121 = .ok (.getfield 22, 3) := by decide +kernel
theorem d_210_124 : decode (mth 210).2.1 124 = .ok (.aload_n 0, 1) := by decide +kernel
theorem d_210_125 : decode (mth 210).2.1 125 = .ok (.getfield 167, 3) := by decide +kernel
theorem d_210_128 : decode (mth 210).2.1 128 = .ok (.iaload, 1) := by decide +kernel
theorem d_210_129 : decode (mth 210).2.1 129 = .ok (.i2l, 1) := by decide +kernel
theorem d_210_130 : decode (mth 210).2.1 130 = .ok (.ladd, 1) := by decide +kernel
theorem d_210_131 : decode (mth 210).2.1 131 = .ok (.ldc2_w 186, 3) := by decide +kernel
theorem d_210_134 : decode (mth 210).2.1 134 = .ok (.lsub, 1) := by decide +kernel
theorem d_210_135 : decode (mth 210).2.1 135 = .ok (.lconst 1, 1) := by decide +kernel
theorem d_210_136 : decode (mth 210).2.1 136 = .ok (.ladd, 1) := by decide +kernel
theorem d_210_137 : decode (mth 210).2.1 137 = .ok (.goto 6, 3) := by decide +kernel
theorem d_210_140 : decode (mth 210).2.1 140 = .ok (.ldc2_w 188, 3) := by decide +kernel
theorem d_210_143 : decode (mth 210).2.1 143 = .ok (.putfield 173, 3) := by decide +kernel
theorem d_210_146 : decode (mth 210).2.1 146 = .ok (.aload_n 0, 1) := by decide +kernel
theorem d_210_147 : decode (mth 210).2.1 147 = .ok (.dup, 1) := by decide +kernel
theorem d_210_148 : decode (mth 210).2.1 148 = .ok (.getfield 167, 3) := by decide +kernel
theorem d_210_151 : decode (mth 210).2.1 151 = .ok (.iconst 1, 1) := by decide +kernel
theorem d_210_152 : decode (mth 210).2.1 152 = .ok (.iadd, 1) := by decide +kernel
theorem d_210_153 : decode (mth 210).2.1 153 = .ok (.putfield 167, 3) := by decide +kernel
theorem d_210_156 : decode (mth 210).2.1 156 = .ok (.goto (-70), 3) := by decide +kernel
theorem d_210_159 : decode (mth 210).2.1 159 = .ok (.aload_n 0, 1) := by decide +kernel
theorem d_210_160 : decode (mth 210).2.1 160 = .ok (.aload_n 0, 1) := by decide +kernel
theorem d_210_161 : decode (mth 210).2.1 161 = .ok (.getfield 167, 3) := by decide +kernel
theorem d_210_164 : decode (mth 210).2.1 164 = .ok (.aload_n 0, 1) := by decide +kernel
theorem d_210_165 : decode (mth 210).2.1 165 = .ok (.getfield 170, 3) := by decide +kernel
theorem d_210_168 : decode (mth 210).2.1 168 = .ok (.isub, 1) := by decide +kernel
theorem d_210_169 : decode (mth 210).2.1 169 = .ok (.bipush 7, 2) := by decide +kernel
theorem d_210_171 : decode (mth 210).2.1 171 = .ok (.if_icmp .le 9, 3) := by decide +kernel
theorem d_210_174 : decode (mth 210).2.1 174 = .ok (.ldc2_w 188, 3) := by decide +kernel
theorem d_210_177 : decode (mth 210).2.1 177 = .ok (.goto 7, 3) := by decide +kernel
theorem d_210_180 : decode (mth 210).2.1 180 = .ok (.aload_n 0, 1) := by decide +kernel
theorem d_210_181 : decode (mth 210).2.1 181 = .ok (.getfield 173, 3) := by decide +kernel
theorem d_210_184 : decode (mth 210).2.1 184 = .ok (.putfield 173, 3) := by decide +kernel
theorem d_210_187 : decode (mth 210).2.1 187 = .ok (.goto 148, 3) := by decide +kernel
theorem d_210_190 : decode (mth 210).2.1 190 = .ok (.aload_n 0, 1) := by decide +kernel
theorem d_210_191 : decode (mth 210).2.1 191 = .ok (.bipush 48, 2) := by decide +kernel
theorem d_210_193 : decode (mth 210).2.1 193 = .ok (.bipush 57, 2) := by decide +kernel
theorem d_210_195 : decode (mth 210).2.1 195 = .ok (.invokevirtual 180, 3) := by decide +kernel
theorem d_210_198 : decode (mth 210).2.1 198 = .ok (.ifCond .eq 108, 3) := by decide +kernel
theorem d_210_201 : decode (mth 210).2.1 201 = .ok (.aload_n 0, 1) := by decide +kernel
theorem d_210_202 : decode (mth 210).2.1 202 = .ok (.iconst 2, 1) := by decide +kernel
theorem d_210_203 : decode (mth 210).2.1 203 = .ok (.putfield 177, 3) := by decide +kernel
theorem d_210_206 : decode (mth 210).2.1 206 = .ok (.aload_n 0, 1) := by decide +kernel
theorem d_210_207 : decode (mth 210).2.1 207 = .ok (.bipush 48, 2) := by decide +kernel
theorem d_210_209 : decode (mth 210).2.1 209 = .ok (.bipush 57, 2) := by decide +kernel
theorem d_210_211 : decode (mth 210).2.1 211 = .ok (.invokevirtual 180, 3) := by decide +kernel
theorem d_210_214 : decode (mth 210).2.1 214 = .ok (.ifCond .eq 62, 3) := by decide +kernel
theorem d_210_217 : decode (mth 210).2.1 217 = .ok (.aload_n 0, 1) := by decide +kernel
theorem d_210_218 : decode (mth 210).2.1 218 = .ok (.aload_n 0, 1) := by decide +kernel
theorem d_210_219 : decode (mth 210).2.1 219 = .ok (.getfield 167, 3) := by decide +kernel
theorem d_210_222 : decode (mth 210).2.1 222 = .ok (.aload_n 0, 1) := by decide +kernel
theorem d_210_223 : decode (mth 210).2.1 223 = .ok (.getfield 170, 3) := by decide +kernel
theorem d_210_226 : decode (mth 210).2.1 226 = .ok (.isub, 1) := by decide +kernel
theorem d_210_227 : decode (mth 210).2.1 227 = .ok (.iconst 4, 1) := by decide +kernel
theorem d_210_228 : decode (mth 210).2.1 228 = .ok (.if_icmp .ge 29, 3) := by decide +kernel
theorem d_210_231 : decode (mth 210).2.1 231 = .ok (.ldc2_w 190, 3) := by decide +kernel
theorem d_210_234 : decode (mth 210).2.1 234 = .ok (.aload_n 0, 1) := by decide +kernel
theorem d_210_235 : decode (mth 210).2.1 235 = .ok (.getfield 173, 3) := by decide +kernel
theorem d_210_238 : decode (mth 210).2.1 238 = .ok (.lmul, 1) := by decide +kernel
theorem d_210_239 : decode (mth 210).2.1 239 = .ok (.aload_n 0, 1) := by decide +kernel
theorem d_210_240 : decode (mth 210).2.1 240 = .ok (.getfield 22, 3) := by decide +kernel
theorem d_210_243 : decode (mth 210).2.1 243 = .ok (.aload_n 0, 1) := by decide +kernel
theorem d_210_244 : decode (mth 210).2.1 244 = .ok (.getfield 167, 3) := by decide +kernel
theorem d_210_247 : decode (mth 210).2.1 247 = .ok (.iaload, 1) := by decide +kernel
theorem d_210_248 : decode (mth 210).2.1 248 = .ok (.i2l, 1) := by decide +kernel
theorem d_210_249 : decode (mth 210).2.1 249 = .ok (.ladd, 1) := by decide +kernel
theorem d_210_250 : decode (mth 210).2.1 250 = .ok (.ldc2_w 192, 3) := by decide +kernel
theorem d_210_253 : decode (mth 210).2.1 253 = .ok (.lsub, 1) := by decide +kernel
theorem d_210_254 : decode (mth 210).2.1 254 = .ok (.goto 6, 3) := by decide +kernel
theorem d_210_257 : decode (mth 210).2.1 257 = .ok (.ldc2_w 194, 3) := by decide +kernel
theorem d_210_260 : decode (mth 210).2.1 260 = .ok (.putfield 173, 3) := by decide +kernel
theorem d_210_263 : decode (mth 210).2.1 263 = .ok (.aload_n 0, 1) := by decide +kernel
theorem d_210_264 : decode (mth 210).2.1 264 = .ok (.dup, 1) := by decide +kernel
theorem d_210_265 : decode (mth 210).2.1 265 = .ok (.getfield 167, 3) := by decide +kernel
theorem d_210_268 : decode (mth 210).2.1 268 = .ok (.iconst 1, 1) := by decide +kernel
theorem d_210_269 : decode (mth 210).2.1 269 = .ok (.iadd, 1) := by decide +kernel
theorem d_210_270 : decode (mth 210).2.1 270 = .ok (.putfield 167, 3) := by decide +kernel
theorem d_210_273 : decode (mth 210).2.1 273 = .ok (.goto (-67), 3) := by decide +kernel
theorem d_210_276 : decode (mth 210).2.1 276 = .ok (.aload_n 0, 1) := by decide +kernel
theorem d_210_277 : decode (mth 210).2.1 277 = .ok (.aload_n 0, 1) := by decide +kernel
theorem d_210_278 : decode (mth 210).2.1 278 = .ok (.getfield 167, 3) := by decide +kernel
theorem d_210_281 : decode (mth 210).2.1 281 = .ok (.aload_n 0, 1) := by decide +kernel
theorem d_210_282 : decode (mth 210).2.1 282 = .ok (.getfield 170, 3) := by decide +kernel
theorem d_210_285 : decode (mth 210).2.1 285 = .ok (.isub, 1) := by decide +kernel
theorem d_210_286 : decode (mth 210).2.1 286 = .ok (.iconst 4, 1) := by decide +kernel
theorem d_210_287 : decode (mth 210).2.1 287 = .ok (.if_icmp .le 9, 3) := by decide +kernel
theorem d_210_290 : decode (mth 210).2.1 290 = .ok (.ldc2_w 194, 3) := by decide +kernel
theorem d_210_293 : decode (mth 210).2.1 293 = .ok (.goto 7, 3) := by decide +kernel
theorem d_210_296 : decode (mth 210).2.1 296 = .ok (.aload_n 0, 1) := by decide +kernel
theorem d_210_297 : decode (mth 210).2.1 297 = .ok (.getfield 173, 3) := by decide +kernel
theorem d_210_300 : decode (mth 210).2.1 300 = .ok (.putfield 173, 3) := by decide +kernel
theorem d_210_303 : decode (mth 210).2.1 303 = .ok (.goto 32, 3) := by decide +kernel
theorem d_210_306 : decode (mth 210).2.1 306 = .ok (.aload_n 0, 1) := by decide +kernel
theorem d_210_307 : decode (mth 210).2.1 307 = .ok (.iconst 3, 1) := by decide +kernel
theorem d_210_308 : decode (mth 210).2.1 308 = .ok (.putfield 177, 3) := by decide +kernel
theorem d_210_311 : decode (mth 210).2.1 311 = .ok (.aload_n 0, 1) := by decide +kernel
theorem d_210_312 : decode (mth 210).2.1 312 = .ok (.aload_n 0, 1) := by decide +kernel
theorem d_210_313 : decode (mth 210).2.1 313 = .ok (.getfield 22, 3) := by decide +kernel
theorem d_210_316 : decode (mth 210).2.1 316 = .ok (.aload_n 0, 1) := by decide +kernel
theorem d_210_317 : decode (mth 210).2.1 317 = .ok (.getfield 167, 3) := by decide +kernel
theorem d_210_320 : decode (mth 210).2.1 320 = .ok (.iaload, 1) := by decide +kernel
theorem d_210_321 : decode (mth 210).2.1 321 = .ok (.i2l, 1) := by decide +kernel
theorem d_210_322 : decode (mth 210).2.1 322 = .ok (.putfield 173, 3) := by decide +kernel
theorem d_210_325 : decode (mth 210).2.1 325 = .ok (.aload_n 0, 1) := by decide +kernel
theorem d_210_326 : decode (mth 210).2.1 326 = .ok (.dup, 1) := by decide +kernel
theorem d_210_327 : decode (mth 210).2.1 327 = .ok (.getfield 167, 3) := by decide +kernel
theorem d_210_330 : decode (mth 210).2.1 330 = .ok (.iconst 1, 1) := by decide +kernel
theorem d_210_331 : decode (mth 210).2.1 331 = .ok (.iadd, 1) := by decide +kernel
theorem d_210_332 : decode (mth 210).2.1 332 = .ok (.putfield 167, 3) := by decide +kernel
theorem d_210_335 : decode (mth 210).2.1 335 = .ok (.return_, 1) := by decide +kernel
/-! 211 PlayedTruthModel.isRow(CC)Z -/
theorem d_211_0 : decode (mth 211).2.1 0 = .ok (.aload_n 0, 1) := by decide +kernel
theorem d_211_1 : decode (mth 211).2.1 1 = .ok (.getfield 167, 3) := by decide +kernel
theorem d_211_4 : decode (mth 211).2.1 4 = .ok (.aload_n 0, 1) := by decide +kernel
theorem d_211_5 : decode (mth 211).2.1 5 = .ok (.getfield 162, 3) := by decide +kernel
theorem d_211_8 : decode (mth 211).2.1 8 = .ok (.if_icmp .ge 27, 3) := by decide +kernel
theorem d_211_11 : decode (mth 211).2.1 11 = .ok (.aload_n 0, 1) := by decide +kernel
theorem d_211_12 : decode (mth 211).2.1 12 = .ok (.getfield 22, 3) := by decide +kernel
theorem d_211_15 : decode (mth 211).2.1 15 = .ok (.aload_n 0, 1) := by decide +kernel
theorem d_211_16 : decode (mth 211).2.1 16 = .ok (.getfield 167, 3) := by decide +kernel
theorem d_211_19 : decode (mth 211).2.1 19 = .ok (.iaload, 1) := by decide +kernel
theorem d_211_20 : decode (mth 211).2.1 20 = .ok (.i2l, 1) := by decide +kernel
theorem d_211_21 : decode (mth 211).2.1 21 = .ok (.iload_n 1, 1) := by decide +kernel
theorem d_211_22 : decode (mth 211).2.1 22 = .ok (.i2l, 1) := by decide +kernel
theorem d_211_23 : decode (mth 211).2.1 23 = .ok (.iload_n 2, 1) := by decide +kernel
theorem d_211_24 : decode (mth 211).2.1 24 = .ok (.i2l, 1) := by decide +kernel
theorem d_211_25 : decode (mth 211).2.1 25 = .ok (.invokestatic 58, 3) := by decide +kernel
theorem d_211_28 : decode (mth 211).2.1 28 = .ok (.ifCond .eq 7, 3) := by decide +kernel
theorem d_211_31 : decode (mth 211).2.1 31 = .ok (.iconst 1, 1) := by decide +kernel
theorem d_211_32 : decode (mth 211).2.1 32 = .ok (.goto 4, 3) := by decide +kernel
theorem d_211_35 : decode (mth 211).2.1 35 = .ok (.iconst 0, 1) := by decide +kernel
theorem d_211_36 : decode (mth 211).2.1 36 = .ok (.ireturn, 1) := by decide +kernel
/-! 212 PlayedTruthModel.ruleHere()V -/
theorem d_212_0 : decode (mth 212).2.1 0 = .ok (.aload_n 0, 1) := by decide +kernel
theorem d_212_1 : decode (mth 212).2.1 1 = .ok (.invokevirtual 274, 3) := by decide +kernel
theorem d_212_4 : decode (mth 212).2.1 4 = .ok (.istore_n 1, 1) := by decide +kernel
theorem d_212_5 : decode (mth 212).2.1 5 = .ok (.aload_n 0, 1) := by decide +kernel
theorem d_212_6 : decode (mth 212).2.1 6 = .ok (.iload_n 1, 1) := by decide +kernel
theorem d_212_7 : decode (mth 212).2.1 7 = .ok (.ifCond .lt 16, 3) := by decide +kernel
theorem d_212_10 : decode (mth 212).2.1 10 = .ok (.aload_n 0, 1) := by decide +kernel
theorem d_212_11 : decode (mth 212).2.1 11 = .ok (.getfield 277, 3) := by decide +kernel
theorem d_212_14 : decode (mth 212).2.1 14 = .ok (.bipush 8, 2) := by decide +kernel
theorem d_212_16 : decode (mth 212).2.1 16 = .ok (.if_icmp .ge 7, 3) := by decide +kernel
theorem d_212_19 : decode (mth 212).2.1 19 = .ok (.iconst 1, 1) := by decide +kernel
theorem d_212_20 : decode (mth 212).2.1 20 = .ok (.goto 4, 3) := by decide +kernel
theorem d_212_23 : decode (mth 212).2.1 23 = .ok (.iconst 0, 1) := by decide +kernel
theorem d_212_24 : decode (mth 212).2.1 24 = .ok (.invokevirtual 245, 3) := by decide +kernel
theorem d_212_27 : decode (mth 212).2.1 27 = .ok (.aload_n 0, 1) := by decide +kernel
theorem d_212_28 : decode (mth 212).2.1 28 = .ok (.getfield 200, 3) := by decide +kernel
theorem d_212_31 : decode (mth 212).2.1 31 = .ok (.istore_n 2, 1) := by decide +kernel
theorem d_212_32 : decode (mth 212).2.1 32 = .ok (.aload_n 0, 1) := by decide +kernel
theorem d_212_33 : decode (mth 212).2.1 33 = .ok (.ldc2_w 280, 3) := by decide +kernel
theorem d_212_36 : decode (mth 212).2.1 36 = .ok (.invokevirtual 205, 3) := by decide +kernel
theorem d_212_39 : decode (mth 212).2.1 39 = .ok (.ifCond .eq 11, 3) := by decide +kernel
theorem d_212_42 : decode (mth 212).2.1 42 = .ok (.aload_n 0, 1) := by decide +kernel
theorem d_212_43 : decode (mth 212).2.1 43 = .ok (.invokevirtual 235, 3) := by decide +kernel
theorem d_212_46 : decode (mth 212).2.1 46 = .ok (.aload_n 0, 1) := by decide +kernel
theorem d_212_47 : decode (mth 212).2.1 47 = .ok (.invokevirtual 258, 3) := by decide +kernel
theorem d_212_50 : decode (mth 212).2.1 50 = .ok (.aload_n 0, 1) := by decide +kernel
theorem d_212_51 : decode (mth 212).2.1 51 = .ok (.invokevirtual 282, 3) := by decide +kernel
theorem d_212_54 : decode (mth 212).2.1 54 = .ok (.istore_n 3, 1) := by decide +kernel
theorem d_212_55 : decode (mth 212).2.1 55 = .ok (.aload_n 0, 1) := by decide +kernel
theorem d_212_56 : decode (mth 212).2.1 56 = .ok (.iload_n 3, 1) := by decide +kernel
theorem d_212_57 : decode (mth 212).2.1 57 = .ok (.ifCond .lt 7, 3) := by decide +kernel
theorem d_212_60 : decode (mth 212).2.1 60 = .ok (.iconst 1, 1) := by decide +kernel
theorem d_212_61 : decode (mth 212).2.1 61 = .ok (.goto 4, 3) := by decide +kernel
theorem d_212_64 : decode (mth 212).2.1 64 = .ok (.iconst 0, 1) := by decide +kernel
theorem d_212_65 : decode (mth 212).2.1 65 = .ok (.invokevirtual 245, 3) := by decide +kernel
theorem d_212_68 : decode (mth 212).2.1 68 = .ok (.aload_n 0, 1) := by decide +kernel
theorem d_212_69 : decode (mth 212).2.1 69 = .ok (.getfield 196, 3) := by decide +kernel
theorem d_212_72 : decode (mth 212).2.1 72 = .ok (.ifCond .ne 17, 3) := by decide +kernel
theorem d_212_75 : decode (mth 212).2.1 75 = .ok (.aload_n 0, 1) := by decide +kernel
theorem d_212_76 : decode (mth 212).2.1 76 = .ok (.bipush 59, 2) := by decide +kernel
theorem d_212_78 : decode (mth 212).2.1 78 = .ok (.invokevirtual 251, 3) := by decide +kernel
theorem d_212_81 : decode (mth 212).2.1 81 = .ok (.ifCond .ne 8, 3) := by decide +kernel
theorem d_212_84 : decode (mth 212).2.1 84 = .ok (.aload_n 0, 1) := by decide +kernel
theorem d_212_85 : decode (mth 212).2.1 85 = .ok (.iconst 1, 1) := by decide +kernel
theorem d_212_86 : decode (mth 212).2.1 86 = .ok (.putfield 196, 3) := by decide +kernel
theorem d_212_89 : decode (mth 212).2.1 89 = .ok (.aload_n 0, 1) := by decide +kernel
theorem d_212_90 : decode (mth 212).2.1 90 = .ok (.getfield 196, 3) := by decide +kernel
theorem d_212_93 : decode (mth 212).2.1 93 = .ok (.ifCond .ne 74, 3) := by decide +kernel
theorem d_212_96 : decode (mth 212).2.1 96 = .ok (.aload_n 0, 1) := by decide +kernel
theorem d_212_97 : decode (mth 212).2.1 97 = .ok (.getfield 28, 3) := by decide +kernel
theorem d_212_100 : decode (mth 212).2.1 100 = .ok (.iconst 4, 1) := by decide +kernel
theorem d_212_101 : decode (mth 212).2.1 101 = .ok (.aload_n 0, 1) := by decide +kernel
theorem d_212_102 : decode (mth 212).2.1 102 = .ok (.getfield 277, 3) := by decide +kernel
theorem d_212_105 : decode (mth 212).2.1 105 = .ok (.imul, 1) := by decide +kernel
theorem d_212_106 : decode (mth 212).2.1 106 = .ok (.iload_n 1, 1) := by decide +kernel
theorem d_212_107 : decode (mth 212).2.1 107 = .ok (.iastore, 1) := by decide +kernel
theorem d_212_108 : decode (mth 212).2.1 108 = .ok (.aload_n 0, 1) := by decide +kernel
theorem d_212_109 : decode (mth 212).2.1 109 = .ok (.getfield 28, 3) := by decide +kernel
theorem d_212_112 : decode (mth 212).2.1 112 = .ok (.iconst 4, 1) := by decide +kernel
theorem d_212_113 : decode (mth 212).2.1 113 = .ok (.aload_n 0, 1) := by decide +kernel
theorem d_212_114 : decode (mth 212).2.1 114 = .ok (.getfield 277, 3) := by decide +kernel
theorem d_212_117 : decode (mth 212).2.1 117 = .ok (.imul, 1) := by decide +kernel
theorem d_212_118 : decode (mth 212).2.1 118 = .ok (.iconst 1, 1) := by decide +kernel
theorem d_212_119 : decode (mth 212).2.1 119 = .ok (.iadd, 1) := by decide +kernel
theorem d_212_120 : decode (mth 212).2.1 120 = .ok (.iload_n 3, 1) := by decide +kernel
theorem d_212_121 : decode (mth 212).2.1 121 = .ok (.iastore, 1) := by decide +kernel
theorem d_212_122 : decode (mth 212).2.1 122 = .ok (.aload_n 0, 1) := by decide +kernel
theorem d_212_123 : decode (mth 212).2.1 123 = .ok (.getfield 28, 3) := by decide +kernel
theorem d_212_126 : decode (mth 212).2.1 126 = .ok (.iconst 4, 1) := by decide +kernel
theorem d_212_127 : decode (mth 212).2.1 127 = .ok (.aload_n 0, 1) := by decide +kernel
theorem d_212_128 : decode (mth 212).2.1 128 = .ok (.getfield 277, 3) := by decide +kernel
theorem d_212_131 : decode (mth 212).2.1 131 = .ok (.imul, 1) := by decide +kernel
theorem d_212_132 : decode (mth 212).2.1 132 = .ok (.iconst 2, 1) := by decide +kernel
theorem d_212_133 : decode (mth 212).2.1 133 = .ok (.iadd, 1) := by decide +kernel
theorem d_212_134 : decode (mth 212).2.1 134 = .ok (.iload_n 2, 1) := by decide +kernel
theorem d_212_135 : decode (mth 212).2.1 135 = .ok (.iastore, 1) := by decide +kernel
theorem d_212_136 : decode (mth 212).2.1 136 = .ok (.aload_n 0, 1) := by decide +kernel
theorem d_212_137 : decode (mth 212).2.1 137 = .ok (.getfield 28, 3) := by decide +kernel
theorem d_212_140 : decode (mth 212).2.1 140 = .ok (.iconst 4, 1) := by decide +kernel
theorem d_212_141 : decode (mth 212).2.1 141 = .ok (.aload_n 0, 1) := by decide +kernel
theorem d_212_142 : decode (mth 212).2.1 142 = .ok (.getfield 277, 3) := by decide +kernel
theorem d_212_145 : decode (mth 212).2.1 145 = .ok (.imul, 1) := by decide +kernel
theorem d_212_146 : decode (mth 212).2.1 146 = .ok (.iconst 3, 1) := by decide +kernel
theorem d_212_147 : decode (mth 212).2.1 147 = .ok (.iadd, 1) := by decide +kernel
theorem d_212_148 : decode (mth 212).2.1 148 = .ok (.aload_n 0, 1) := by decide +kernel
theorem d_212_149 : decode (mth 212).2.1 149 = .ok (.getfield 200, 3) := by decide +kernel
theorem d_212_152 : decode (mth 212).2.1 152 = .ok (.iastore, 1) := by decide +kernel
theorem d_212_153 : decode (mth 212).2.1 153 = .ok (.aload_n 0, 1) := by decide +kernel
theorem d_212_154 : decode (mth 212).2.1 154 = .ok (.dup, 1) := by decide +kernel
theorem d_212_155 : decode (mth 212).2.1 155 = .ok (.getfield 277, 3) := by decide +kernel
theorem d_212_158 : decode (mth 212).2.1 158 = .ok (.iconst 1, 1) := by decide +kernel
theorem d_212_159 : decode (mth 212).2.1 159 = .ok (.iadd, 1) := by decide +kernel
theorem d_212_160 : decode (mth 212).2.1 160 = .ok (.putfield 277, 3) := by decide +kernel
theorem d_212_163 : decode (mth 212).2.1 163 = .ok (.aload_n 0, 1) := by decide +kernel
theorem d_212_164 : decode (mth 212).2.1 164 = .ok (.invokevirtual 235, 3) := by decide +kernel
theorem d_212_167 : decode (mth 212).2.1 167 = .ok (.return_, 1) := by decide +kernel
/-! 213 PlayedTruthModel.kindHere()I -/
theorem d_213_0 : decode (mth 213).2.1 0 = .ok (.aload_n 0, 1) := by decide +kernel
theorem d_213_1 : decode (mth 213).2.1 1 = .ok (.ldc2_w 203, 3) := by decide +kernel
theorem d_213_4 : decode (mth 213).2.1 4 = .ok (.invokevirtual 205, 3) := by decide +kernel
theorem d_213_7 : decode (mth 213).2.1 7 = .ok (.ifCond .eq 7, 3) := by decide +kernel
theorem d_213_10 : decode (mth 213).2.1 10 = .ok (.iconst 0, 1) := by decide +kernel
theorem d_213_11 : decode (mth 213).2.1 11 = .ok (.goto 74, 3) := by decide +kernel
theorem d_213_14 : decode (mth 213).2.1 14 = .ok (.aload_n 0, 1) := by decide +kernel
theorem d_213_15 : decode (mth 213).2.1 15 = .ok (.ldc2_w 209, 3) := by decide +kernel
theorem d_213_18 : decode (mth 213).2.1 18 = .ok (.invokevirtual 205, 3) := by decide +kernel
theorem d_213_21 : decode (mth 213).2.1 21 = .ok (.ifCond .eq 7, 3) := by decide +kernel
theorem d_213_24 : decode (mth 213).2.1 24 = .ok (.iconst 1, 1) := by decide +kernel
theorem d_213_25 : decode (mth 213).2.1 25 = .ok (.goto 60, 3) := by decide +kernel
theorem d_213_28 : decode (mth 213).2.1 28 = .ok (.aload_n 0, 1) := by decide +kernel
theorem d_213_29 : decode (mth 213).2.1 29 = .ok (.ldc2_w 211, 3) := by decide +kernel
theorem d_213_32 : decode (mth 213).2.1 32 = .ok (.invokevirtual 205, 3) := by decide +kernel
theorem d_213_35 : decode (mth 213).2.1 35 = .ok (.ifCond .eq 7, 3) := by decide +kernel
theorem d_213_38 : decode (mth 213).2.1 38 = .ok (.iconst 2, 1) := by decide +kernel
theorem d_213_39 : decode (mth 213).2.1 39 = .ok (.goto 46, 3) := by decide +kernel
theorem d_213_42 : decode (mth 213).2.1 42 = .ok (.aload_n 0, 1) := by decide +kernel
theorem d_213_43 : decode (mth 213).2.1 43 = .ok (.ldc2_w 213, 3) := by decide +kernel
theorem d_213_46 : decode (mth 213).2.1 46 = .ok (.invokevirtual 205, 3) := by decide +kernel
theorem d_213_49 : decode (mth 213).2.1 49 = .ok (.ifCond .eq 7, 3) := by decide +kernel
theorem d_213_52 : decode (mth 213).2.1 52 = .ok (.iconst 3, 1) := by decide +kernel
theorem d_213_53 : decode (mth 213).2.1 53 = .ok (.goto 32, 3) := by decide +kernel
theorem d_213_56 : decode (mth 213).2.1 56 = .ok (.aload_n 0, 1) := by decide +kernel
theorem d_213_57 : decode (mth 213).2.1 57 = .ok (.ldc2_w 215, 3) := by decide +kernel
theorem d_213_60 : decode (mth 213).2.1 60 = .ok (.invokevirtual 205, 3) := by decide +kernel
theorem d_213_63 : decode (mth 213).2.1 63 = .ok (.ifCond .eq 7, 3) := by decide +kernel
theorem d_213_66 : decode (mth 213).2.1 66 = .ok (.iconst 4, 1) := by decide +kernel
theorem d_213_67 : decode (mth 213).2.1 67 = .ok (.goto 18, 3) := by decide +kernel
theorem d_213_70 : decode (mth 213).2.1 70 = .ok (.aload_n 0, 1) := by decide +kernel
theorem d_213_71 : decode (mth 213).2.1 71 = .ok (.ldc2_w 217, 3) := by decide +kernel
theorem d_213_74 : decode (mth 213).2.1 74 = .ok (.invokevirtual 205, 3) := by decide +kernel
theorem d_213_77 : decode (mth 213).2.1 77 = .ok (.ifCond .eq 7, 3) := by decide +kernel
theorem d_213_80 : decode (mth 213).2.1 80 = .ok (.iconst 5, 1) := by decide +kernel
theorem d_213_81 : decode (mth 213).2.1 81 = .ok (.goto 4, 3) := by decide +kernel
theorem d_213_84 : decode (mth 213).2.1 84 = .ok (.iconst (-1), 1) := by decide +kernel
theorem d_213_85 : decode (mth 213).2.1 85 = .ok (.ireturn, 1) := by decide +kernel
/-! 214 PlayedTruthModel.isWord(J)Z -/
theorem d_214_0 : decode (mth 214).2.1 0 = .ok (.aload_n 0, 1) := by decide +kernel
theorem d_214_1 : decode (mth 214).2.1 1 = .ok (.getfield 177, 3) := by decide +kernel
theorem d_214_4 : decode (mth 214).2.1 4 = .ok (.iconst 1, 1) := by decide +kernel
theorem d_214_5 : decode (mth 214).2.1 5 = .ok (.if_icmp .ne 23, 3) := by decide +kernel
theorem d_214_8 : decode (mth 214).2.1 8 = .ok (.aload_n 0, 1) := by decide +kernel
theorem d_214_9 : decode (mth 214).2.1 9 = .ok (.getfield 173, 3) := by decide +kernel
theorem d_214_12 : decode (mth 214).2.1 12 = .ok (.lload_n 1, 1) := by decide +kernel
theorem d_214_13 : decode (mth 214).2.1 13 = .ok (.lcmp, 1) := by decide +kernel
theorem d_214_14 : decode (mth 214).2.1 14 = .ok (.ifCond .ne 14, 3) := by decide +kernel
theorem d_214_17 : decode (mth 214).2.1 17 = .ok (.aload_n 0, 1) := by decide +kernel
theorem d_214_18 : decode (mth 214).2.1 18 = .ok (.getfield 196, 3) := by decide +kernel
theorem d_214_21 : decode (mth 214).2.1 21 = .ok (.ifCond .ne 7, 3) := by decide +kernel
theorem d_214_24 : decode (mth 214).2.1 24 = .ok (.iconst 1, 1) := by decide +kernel
theorem d_214_25 : decode (mth 214).2.1 25 = .ok (.goto 4, 3) := by decide +kernel
theorem d_214_28 : decode (mth 214).2.1 28 = .ok (.iconst 0, 1) := by decide +kernel
theorem d_214_29 : decode (mth 214).2.1 29 = .ok (.ireturn, 1) := by decide +kernel
/-! 215 PlayedTruthModel.goesBy(Z)V -/
theorem d_215_0 : decode (mth 215).2.1 0 = .ok (.aload_n 0, 1) := by decide +kernel
theorem d_215_1 : decode (mth 215).2.1 1 = .ok (.aload_n 0, 1) := by decide +kernel
theorem d_215_2 : decode (mth 215).2.1 2 = .ok (.getfield 196, 3) := by decide +kernel
theorem d_215_5 : decode (mth 215).2.1 5 = .ok (.ifCond .ne 7, 3) := by decide +kernel
theorem d_215_8 : decode (mth 215).2.1 8 = .ok (.iload_n 1, 1) := by decide +kernel
theorem d_215_9 : decode (mth 215).2.1 9 = .ok (.ifCond .ne 7, 3) := by decide +kernel
theorem d_215_12 : decode (mth 215).2.1 12 = .ok (.iconst 1, 1) := by decide +kernel
theorem d_215_13 : decode (mth 215).2.1 13 = .ok (.goto 4, 3) := by decide +kernel
theorem d_215_16 : decode (mth 215).2.1 16 = .ok (.iconst 0, 1) := by decide +kernel
theorem d_215_17 : decode (mth 215).2.1 17 = .ok (.putfield 196, 3) := by decide +kernel
theorem d_215_20 : decode (mth 215).2.1 20 = .ok (.aload_n 0, 1) := by decide +kernel
theorem d_215_21 : decode (mth 215).2.1 21 = .ok (.getfield 196, 3) := by decide +kernel
theorem d_215_24 : decode (mth 215).2.1 24 = .ok (.ifCond .ne 7, 3) := by decide +kernel
theorem d_215_27 : decode (mth 215).2.1 27 = .ok (.aload_n 0, 1) := by decide +kernel
theorem d_215_28 : decode (mth 215).2.1 28 = .ok (.invokevirtual 235, 3) := by decide +kernel
theorem d_215_31 : decode (mth 215).2.1 31 = .ok (.return_, 1) := by decide +kernel
/-! 216 PlayedTruthModel.either()V -/
theorem d_216_0 : decode (mth 216).2.1 0 = .ok (.aload_n 0, 1) := by decide +kernel
theorem d_216_1 : decode (mth 216).2.1 1 = .ok (.getfield 196, 3) := by decide +kernel
theorem d_216_4 : decode (mth 216).2.1 4 = .ok (.ifCond .eq 4, 3) := by decide +kernel
theorem d_216_7 : decode (mth 216).2.1 7 = .ok (.return_, 1) := by decide +kernel
theorem d_216_8 : decode (mth 216).2.1 8 = .ok (.aload_n 0, 1) := by decide +kernel
theorem d_216_9 : decode (mth 216).2.1 9 = .ok (.invokevirtual 269, 3) := by decide +kernel
theorem d_216_12 : decode (mth 216).2.1 12 = .ok (.aload_n 0, 1) := by decide +kernel
theorem d_216_13 : decode (mth 216).2.1 13 = .ok (.ldc2_w 272, 3) := by decide +kernel
theorem d_216_16 : decode (mth 216).2.1 16 = .ok (.invokevirtual 205, 3) := by decide +kernel
theorem d_216_19 : decode (mth 216).2.1 19 = .ok (.ifCond .eq 21, 3) := by decide +kernel
theorem d_216_22 : decode (mth 216).2.1 22 = .ok (.aload_n 0, 1) := by decide +kernel
theorem d_216_23 : decode (mth 216).2.1 23 = .ok (.invokevirtual 235, 3) := by decide +kernel
theorem d_216_26 : decode (mth 216).2.1 26 = .ok (.aload_n 0, 1) := by decide +kernel
theorem d_216_27 : decode (mth 216).2.1 27 = .ok (.invokevirtual 269, 3) := by decide +kernel
theorem d_216_30 : decode (mth 216).2.1 30 = .ok (.aload_n 0, 1) := by decide +kernel
theorem d_216_31 : decode (mth 216).2.1 31 = .ok (.sipush 20124, 3) := by decide +kernel
theorem d_216_34 : decode (mth 216).2.1 34 = .ok (.invokevirtual 241, 3) := by decide +kernel
theorem d_216_37 : decode (mth 216).2.1 37 = .ok (.goto (-25), 3) := by decide +kernel
theorem d_216_40 : decode (mth 216).2.1 40 = .ok (.return_, 1) := by decide +kernel
/-! 217 PlayedTruthModel.both()V -/
theorem d_217_0 : decode (mth 217).2.1 0 = .ok (.aload_n 0, 1) := by decide +kernel
theorem d_217_1 : decode (mth 217).2.1 1 = .ok (.invokevirtual 264, 3) := by decide +kernel
theorem d_217_4 : decode (mth 217).2.1 4 = .ok (.aload_n 0, 1) := by decide +kernel
theorem d_217_5 : decode (mth 217).2.1 5 = .ok (.ldc2_w 267, 3) := by decide +kernel
theorem d_217_8 : decode (mth 217).2.1 8 = .ok (.invokevirtual 205, 3) := by decide +kernel
theorem d_217_11 : decode (mth 217).2.1 11 = .ok (.ifCond .eq 21, 3) := by decide +kernel
theorem d_217_14 : decode (mth 217).2.1 14 = .ok (.aload_n 0, 1) := by decide +kernel
theorem d_217_15 : decode (mth 217).2.1 15 = .ok (.invokevirtual 235, 3) := by decide +kernel
theorem d_217_18 : decode (mth 217).2.1 18 = .ok (.aload_n 0, 1) := by decide +kernel
theorem d_217_19 : decode (mth 217).2.1 19 = .ok (.invokevirtual 264, 3) := by decide +kernel
theorem d_217_22 : decode (mth 217).2.1 22 = .ok (.aload_n 0, 1) := by decide +kernel
theorem d_217_23 : decode (mth 217).2.1 23 = .ok (.sipush 20038, 3) := by decide +kernel
theorem d_217_26 : decode (mth 217).2.1 26 = .ok (.invokevirtual 241, 3) := by decide +kernel
theorem d_217_29 : decode (mth 217).2.1 29 = .ok (.goto (-25), 3) := by decide +kernel
theorem d_217_32 : decode (mth 217).2.1 32 = .ok (.return_, 1) := by decide +kernel
/-! 218 PlayedTruthModel.one()V -/
theorem d_218_0 : decode (mth 218).2.1 0 = .ok (.iconst 0, 1) := by decide +kernel
theorem d_218_1 : decode (mth 218).2.1 1 = .ok (.istore_n 1, 1) := by decide +kernel
theorem d_218_2 : decode (mth 218).2.1 2 = .ok (.aload_n 0, 1) := by decide +kernel
theorem d_218_3 : decode (mth 218).2.1 3 = .ok (.ldc2_w 249, 3) := by decide +kernel
theorem d_218_6 : decode (mth 218).2.1 6 = .ok (.invokevirtual 205, 3) := by decide +kernel
theorem d_218_9 : decode (mth 218).2.1 9 = .ok (.ifCond .eq 13, 3) := by decide +kernel
theorem d_218_12 : decode (mth 218).2.1 12 = .ok (.iinc 1 1, 3) := by decide +kernel
theorem d_218_15 : decode (mth 218).2.1 15 = .ok (.aload_n 0, 1) := by decide +kernel
theorem d_218_16 : decode (mth 218).2.1 16 = .ok (.invokevirtual 235, 3) := by decide +kernel
theorem d_218_19 : decode (mth 218).2.1 19 = .ok (.goto (-17), 3) := by decide +kernel
theorem d_218_22 : decode (mth 218).2.1 22 = .ok (.aload_n 0, 1) := by decide +kernel
theorem d_218_23 : decode (mth 218).2.1 23 = .ok (.bipush 40, 2) := by decide +kernel
theorem d_218_25 : decode (mth 218).2.1 25 = .ok (.invokevirtual 251, 3) := by decide +kernel
theorem d_218_28 : decode (mth 218).2.1 28 = .ok (.ifCond .eq 57, 3) := by decide +kernel
theorem d_218_31 : decode (mth 218).2.1 31 = .ok (.aload_n 0, 1) := by decide +kernel
theorem d_218_32 : decode (mth 218).2.1 32 = .ok (.aload_n 0, 1) := by decide +kernel
theorem d_218_33 : decode (mth 218).2.1 33 = .ok (.getfield 255, 3) := by decide +kernel
theorem d_218_36 : decode (mth 218).2.1 36 = .ok (.iconst 3, 1) := by decide +kernel
theorem d_218_37 : decode (mth 218).2.1 37 = .ok (.if_icmp .ge 7, 3) := by decide +kernel
theorem d_218_40 : decode (mth 218).2.1 40 = .ok (.iconst 1, 1) := by decide +kernel
theorem d_218_41 : decode (mth 218).2.1 41 = .ok (.goto 4, 3) := by decide +kernel
theorem d_218_44 : decode (mth 218).2.1 44 = .ok (.iconst 0, 1) := by decide +kernel
theorem d_218_45 : decode (mth 218).2.1 45 = .ok (.invokevirtual 245, 3) := by decide +kernel
theorem d_218_48 : decode (mth 218).2.1 48 = .ok (.aload_n 0, 1) := by decide +kernel
theorem d_218_49 : decode (mth 218).2.1 49 = .ok (.dup, 1) := by decide +kernel
theorem d_218_50 : decode (mth 218).2.1 50 = .ok (.getfield 255, 3) := by decide +kernel
theorem d_218_53 : decode (mth 218).2.1 53 = .ok (.iconst 1, 1) := by decide +kernel
theorem d_218_54 : decode (mth 218).2.1 54 = .ok (.iadd, 1) := by decide +kernel
theorem d_218_55 : decode (mth 218).2.1 55 = .ok (.putfield 255, 3) := by decide +kernel
theorem d_218_58 : decode (mth 218).2.1 58 = .ok (.aload_n 0, 1) := by decide +kernel
theorem d_218_59 : decode (mth 218).2.1 59 = .ok (.invokevirtual 258, 3) := by decide +kernel
theorem d_218_62 : decode (mth 218).2.1 62 = .ok (.aload_n 0, 1) := by decide +kernel
theorem d_218_63 : decode (mth 218).2.1 63 = .ok (.aload_n 0, 1) := by decide +kernel
theorem d_218_64 : decode (mth 218).2.1 64 = .ok (.bipush 41, 2) := by decide +kernel
theorem d_218_66 : decode (mth 218).2.1 66 = .ok (.invokevirtual 251, 3) := by decide +kernel
theorem d_218_69 : decode (mth 218).2.1 69 = .ok (.invokevirtual 245, 3) := by decide +kernel
theorem d_218_72 : decode (mth 218).2.1 72 = .ok (.aload_n 0, 1) := by decide +kernel
theorem d_218_73 : decode (mth 218).2.1 73 = .ok (.dup, 1) := by decide +kernel
theorem d_218_74 : decode (mth 218).2.1 74 = .ok (.getfield 255, 3) := by decide +kernel
theorem d_218_77 : decode (mth 218).2.1 77 = .ok (.iconst 1, 1) := by decide +kernel
theorem d_218_78 : decode (mth 218).2.1 78 = .ok (.isub, 1) := by decide +kernel
theorem d_218_79 : decode (mth 218).2.1 79 = .ok (.putfield 255, 3) := by decide +kernel
theorem d_218_82 : decode (mth 218).2.1 82 = .ok (.goto 62, 3) := by decide +kernel
theorem d_218_85 : decode (mth 218).2.1 85 = .ok (.aload_n 0, 1) := by decide +kernel
theorem d_218_86 : decode (mth 218).2.1 86 = .ok (.invokevirtual 261, 3) := by decide +kernel
theorem d_218_89 : decode (mth 218).2.1 89 = .ok (.aload_n 0, 1) := by decide +kernel
theorem d_218_90 : decode (mth 218).2.1 90 = .ok (.getfield 173, 3) := by decide +kernel
theorem d_218_93 : decode (mth 218).2.1 93 = .ok (.l2i, 1) := by decide +kernel
theorem d_218_94 : decode (mth 218).2.1 94 = .ok (.istore_n 2, 1) := by decide +kernel
theorem d_218_95 : decode (mth 218).2.1 95 = .ok (.aload_n 0, 1) := by decide +kernel
theorem d_218_96 : decode (mth 218).2.1 96 = .ok (.aload_n 0, 1) := by decide +kernel
theorem d_218_97 : decode (mth 218).2.1 97 = .ok (.bipush 60, 2) := by decide +kernel
theorem d_218_99 : decode (mth 218).2.1 99 = .ok (.invokevirtual 251, 3) := by decide +kernel
theorem d_218_102 : decode (mth 218).2.1 102 = .ok (.ifCond .ne 21, 3) := by decide +kernel
theorem d_218_105 : decode (mth 218).2.1 105 = .ok (.aload_n 0, 1) := by decide +kernel
theorem d_218_106 : decode (mth 218).2.1 106 = .ok (.bipush 61, 2) := by decide +kernel
theorem d_218_108 : decode (mth 218).2.1 108 = .ok (.invokevirtual 251, 3) := by decide +kernel
theorem d_218_111 : decode (mth 218).2.1 111 = .ok (.ifCond .ne 12, 3) := by decide +kernel
theorem d_218_114 : decode (mth 218).2.1 114 = .ok (.aload_n 0, 1) := by decide +kernel
theorem d_218_115 : decode (mth 218).2.1 115 = .ok (.bipush 62, 2) := by decide +kernel
theorem d_218_117 : decode (mth 218).2.1 117 = .ok (.invokevirtual 251, 3) := by decide +kernel
theorem d_218_120 : decode (mth 218).2.1 120 = .ok (.ifCond .eq 7, 3) := by decide +kernel
theorem d_218_123 : decode (mth 218).2.1 123 = .ok (.iconst 1, 1) := by decide +kernel
theorem d_218_124 : decode (mth 218).2.1 124 = .ok (.goto 4, 3) := by decide +kernel
theorem d_218_127 : decode (mth 218).2.1 127 = .ok (.iconst 0, 1) := by decide +kernel
theorem d_218_128 : decode (mth 218).2.1 128 = .ok (.invokevirtual 245, 3) := by decide +kernel
theorem d_218_131 : decode (mth 218).2.1 131 = .ok (.aload_n 0, 1) := by decide +kernel
theorem d_218_132 : decode (mth 218).2.1 132 = .ok (.invokevirtual 261, 3) := by decide +kernel
theorem d_218_135 : decode (mth 218).2.1 135 = .ok (.aload_n 0, 1) := by decide +kernel
theorem d_218_136 : decode (mth 218).2.1 136 = .ok (.sipush 20000, 3) := by decide +kernel
theorem d_218_139 : decode (mth 218).2.1 139 = .ok (.iload_n 2, 1) := by decide +kernel
theorem d_218_140 : decode (mth 218).2.1 140 = .ok (.iadd, 1) := by decide +kernel
theorem d_218_141 : decode (mth 218).2.1 141 = .ok (.invokevirtual 241, 3) := by decide +kernel
theorem d_218_144 : decode (mth 218).2.1 144 = .ok (.iconst 0, 1) := by decide +kernel
theorem d_218_145 : decode (mth 218).2.1 145 = .ok (.istore_n 2, 1) := by decide +kernel
theorem d_218_146 : decode (mth 218).2.1 146 = .ok (.iload_n 2, 1) := by decide +kernel
theorem d_218_147 : decode (mth 218).2.1 147 = .ok (.iload_n 1, 1) := by decide +kernel
theorem d_218_148 : decode (mth 218).2.1 148 = .ok (.if_icmp .ge 16, 3) := by decide +kernel
theorem d_218_151 : decode (mth 218).2.1 151 = .ok (.aload_n 0, 1) := by decide +kernel
theorem d_218_152 : decode (mth 218).2.1 152 = .ok (.sipush 20033, 3) := by decide +kernel
theorem d_218_155 : decode (mth 218).2.1 155 = .ok (.invokevirtual 241, 3) := by decide +kernel
theorem d_218_158 : decode (mth 218).2.1 158 = .ok (.iinc 2 1, 3) := by decide +kernel
theorem d_218_161 : decode (mth 218).2.1 161 = .ok (.goto (-15), 3) := by decide +kernel
theorem d_218_164 : decode (mth 218).2.1 164 = .ok (.return_, 1) := by decide +kernel
/-! 219 PlayedTruthModel.isByte(C)Z -/
theorem d_219_0 : decode (mth 219).2.1 0 = .ok (.aload_n 0, 1) := by decide +kernel
theorem d_219_1 : decode (mth 219).2.1 1 = .ok (.getfield 177, 3) := by decide +kernel
theorem d_219_4 : decode (mth 219).2.1 4 = .ok (.iconst 3, 1) := by decide +kernel
theorem d_219_5 : decode (mth 219).2.1 5 = .ok (.if_icmp .ne 24, 3) := by decide +kernel
theorem d_219_8 : decode (mth 219).2.1 8 = .ok (.aload_n 0, 1) := by decide +kernel
theorem d_219_9 : decode (mth 219).2.1 9 = .ok (.getfield 173, 3) := by decide +kernel
theorem d_219_12 : decode (mth 219).2.1 12 = .ok (.iload_n 1, 1) := by decide +kernel
theorem d_219_13 : decode (mth 219).2.1 13 = .ok (.i2l, 1) := by decide +kernel
theorem d_219_14 : decode (mth 219).2.1 14 = .ok (.lcmp, 1) := by decide +kernel
theorem d_219_15 : decode (mth 219).2.1 15 = .ok (.ifCond .ne 14, 3) := by decide +kernel
theorem d_219_18 : decode (mth 219).2.1 18 = .ok (.aload_n 0, 1) := by decide +kernel
theorem d_219_19 : decode (mth 219).2.1 19 = .ok (.getfield 196, 3) := by decide +kernel
theorem d_219_22 : decode (mth 219).2.1 22 = .ok (.ifCond .ne 7, 3) := by decide +kernel
theorem d_219_25 : decode (mth 219).2.1 25 = .ok (.iconst 1, 1) := by decide +kernel
theorem d_219_26 : decode (mth 219).2.1 26 = .ok (.goto 4, 3) := by decide +kernel
theorem d_219_29 : decode (mth 219).2.1 29 = .ok (.iconst 0, 1) := by decide +kernel
theorem d_219_30 : decode (mth 219).2.1 30 = .ok (.ireturn, 1) := by decide +kernel
/-! 220 PlayedTruthModel.valueHere()V -/
theorem d_220_0 : decode (mth 220).2.1 0 = .ok (.aload_n 0, 1) := by decide +kernel
theorem d_220_1 : decode (mth 220).2.1 1 = .ok (.invokevirtual 238, 3) := by decide +kernel
theorem d_220_4 : decode (mth 220).2.1 4 = .ok (.istore_n 1, 1) := by decide +kernel
theorem d_220_5 : decode (mth 220).2.1 5 = .ok (.aload_n 0, 1) := by decide +kernel
theorem d_220_6 : decode (mth 220).2.1 6 = .ok (.getfield 177, 3) := by decide +kernel
theorem d_220_9 : decode (mth 220).2.1 9 = .ok (.iconst 2, 1) := by decide +kernel
theorem d_220_10 : decode (mth 220).2.1 10 = .ok (.if_icmp .ne 18, 3) := by decide +kernel
theorem d_220_13 : decode (mth 220).2.1 13 = .ok (.aload_n 0, 1) := by decide +kernel
theorem d_220_14 : decode (mth 220).2.1 14 = .ok (.getfield 173, 3) := by decide +kernel
theorem d_220_17 : decode (mth 220).2.1 17 = .ok (.ldc2_w 194, 3) := by decide +kernel
theorem d_220_20 : decode (mth 220).2.1 20 = .ok (.lcmp, 1) := by decide +kernel
theorem d_220_21 : decode (mth 220).2.1 21 = .ok (.ifCond .ge 7, 3) := by decide +kernel
theorem d_220_24 : decode (mth 220).2.1 24 = .ok (.iconst 1, 1) := by decide +kernel
theorem d_220_25 : decode (mth 220).2.1 25 = .ok (.goto 4, 3) := by decide +kernel
theorem d_220_28 : decode (mth 220).2.1 28 = .ok (.iconst 0, 1) := by decide +kernel
theorem d_220_29 : decode (mth 220).2.1 29 = .ok (.istore_n 2, 1) := by decide +kernel
theorem d_220_30 : decode (mth 220).2.1 30 = .ok (.aload_n 0, 1) := by decide +kernel
theorem d_220_31 : decode (mth 220).2.1 31 = .ok (.iload_n 1, 1) := by decide +kernel
theorem d_220_32 : decode (mth 220).2.1 32 = .ok (.ifCond .lt 11, 3) := by decide +kernel
theorem d_220_35 : decode (mth 220).2.1 35 = .ok (.sipush 10000, 3) := by decide +kernel
theorem d_220_38 : decode (mth 220).2.1 38 = .ok (.iload_n 1, 1) := by decide +kernel
theorem d_220_39 : decode (mth 220).2.1 39 = .ok (.iadd, 1) := by decide +kernel
theorem d_220_40 : decode (mth 220).2.1 40 = .ok (.goto 16, 3) := by decide +kernel
theorem d_220_43 : decode (mth 220).2.1 43 = .ok (.iload_n 2, 1) := by decide +kernel
theorem d_220_44 : decode (mth 220).2.1 44 = .ok (.ifCond .eq 11, 3) := by decide +kernel
theorem d_220_47 : decode (mth 220).2.1 47 = .ok (.aload_n 0, 1) := by decide +kernel
theorem d_220_48 : decode (mth 220).2.1 48 = .ok (.getfield 173, 3) := by decide +kernel
theorem d_220_51 : decode (mth 220).2.1 51 = .ok (.l2i, 1) := by decide +kernel
theorem d_220_52 : decode (mth 220).2.1 52 = .ok (.goto 4, 3) := by decide +kernel
theorem d_220_55 : decode (mth 220).2.1 55 = .ok (.iconst 0, 1) := by decide +kernel
theorem d_220_56 : decode (mth 220).2.1 56 = .ok (.invokevirtual 241, 3) := by decide +kernel
theorem d_220_59 : decode (mth 220).2.1 59 = .ok (.aload_n 0, 1) := by decide +kernel
theorem d_220_60 : decode (mth 220).2.1 60 = .ok (.iload_n 1, 1) := by decide +kernel
theorem d_220_61 : decode (mth 220).2.1 61 = .ok (.ifCond .ge 7, 3) := by decide +kernel
theorem d_220_64 : decode (mth 220).2.1 64 = .ok (.iload_n 2, 1) := by decide +kernel
theorem d_220_65 : decode (mth 220).2.1 65 = .ok (.ifCond .eq 7, 3) := by decide +kernel
theorem d_220_68 : decode (mth 220).2.1 68 = .ok (.iconst 1, 1) := by decide +kernel
theorem d_220_69 : decode (mth 220).2.1 69 = .ok (.goto 4, 3) := by decide +kernel
theorem d_220_72 : decode (mth 220).2.1 72 = .ok (.iconst 0, 1) := by decide +kernel
theorem d_220_73 : decode (mth 220).2.1 73 = .ok (.invokevirtual 245, 3) := by decide +kernel
theorem d_220_76 : decode (mth 220).2.1 76 = .ok (.return_, 1) := by decide +kernel
/-! 221 PlayedTruthModel.factHere()I -/
theorem d_221_0 : decode (mth 221).2.1 0 = .ok (.aload_n 0, 1) := by decide +kernel
theorem d_221_1 : decode (mth 221).2.1 1 = .ok (.ldc2_w 225, 3) := by decide +kernel
theorem d_221_4 : decode (mth 221).2.1 4 = .ok (.invokevirtual 205, 3) := by decide +kernel
theorem d_221_7 : decode (mth 221).2.1 7 = .ok (.ifCond .eq 7, 3) := by decide +kernel
theorem d_221_10 : decode (mth 221).2.1 10 = .ok (.iconst 0, 1) := by decide +kernel
theorem d_221_11 : decode (mth 221).2.1 11 = .ok (.goto 60, 3) := by decide +kernel
theorem d_221_14 : decode (mth 221).2.1 14 = .ok (.aload_n 0, 1) := by decide +kernel
theorem d_221_15 : decode (mth 221).2.1 15 = .ok (.ldc2_w 227, 3) := by decide +kernel
theorem d_221_18 : decode (mth 221).2.1 18 = .ok (.invokevirtual 205, 3) := by decide +kernel
theorem d_221_21 : decode (mth 221).2.1 21 = .ok (.ifCond .eq 7, 3) := by decide +kernel
theorem d_221_24 : decode (mth 221).2.1 24 = .ok (.iconst 1, 1) := by decide +kernel
theorem d_221_25 : decode (mth 221).2.1 25 = .ok (.goto 46, 3) := by decide +kernel
theorem d_221_28 : decode (mth 221).2.1 28 = .ok (.aload_n 0, 1) := by decide +kernel
theorem d_221_29 : decode (mth 221).2.1 29 = .ok (.ldc2_w 229, 3) := by decide +kernel
theorem d_221_32 : decode (mth 221).2.1 32 = .ok (.invokevirtual 205, 3) := by decide +kernel
theorem d_221_35 : decode (mth 221).2.1 35 = .ok (.ifCond .eq 7, 3) := by decide +kernel
theorem d_221_38 : decode (mth 221).2.1 38 = .ok (.iconst 2, 1) := by decide +kernel
theorem d_221_39 : decode (mth 221).2.1 39 = .ok (.goto 32, 3) := by decide +kernel
theorem d_221_42 : decode (mth 221).2.1 42 = .ok (.aload_n 0, 1) := by decide +kernel
theorem d_221_43 : decode (mth 221).2.1 43 = .ok (.ldc2_w 231, 3) := by decide +kernel
theorem d_221_46 : decode (mth 221).2.1 46 = .ok (.invokevirtual 205, 3) := by decide +kernel
theorem d_221_49 : decode (mth 221).2.1 49 = .ok (.ifCond .eq 7, 3) := by decide +kernel
theorem d_221_52 : decode (mth 221).2.1 52 = .ok (.iconst 3, 1) := by decide +kernel
theorem d_221_53 : decode (mth 221).2.1 53 = .ok (.goto 18, 3) := by decide +kernel
theorem d_221_56 : decode (mth 221).2.1 56 = .ok (.aload_n 0, 1) := by decide +kernel
theorem d_221_57 : decode (mth 221).2.1 57 = .ok (.ldc2_w 233, 3) := by decide +kernel
theorem d_221_60 : decode (mth 221).2.1 60 = .ok (.invokevirtual 205, 3) := by decide +kernel
theorem d_221_63 : decode (mth 221).2.1 63 = .ok (.ifCond .eq 7, 3) := by decide +kernel
theorem d_221_66 : decode (mth 221).2.1 66 = .ok (.iconst 4, 1) := by decide +kernel
theorem d_221_67 : decode (mth 221).2.1 67 = .ok (.goto 4, 3) := by decide +kernel
theorem d_221_70 : decode (mth 221).2.1 70 = .ok (.iconst (-1), 1) := by decide +kernel
theorem d_221_71 : decode (mth 221).2.1 71 = .ok (.ireturn, 1) := by decide +kernel
/-! 222 PlayedTruthModel.lays(I)V -/
theorem d_222_0 : decode (mth 222).2.1 0 = .ok (.aload_n 0, 1) := by decide +kernel
theorem d_222_1 : decode (mth 222).2.1 1 = .ok (.getfield 196, 3) := by decide +kernel
theorem d_222_4 : decode (mth 222).2.1 4 = .ok (.ifCond .ne 23, 3) := by decide +kernel
theorem d_222_7 : decode (mth 222).2.1 7 = .ok (.aload_n 0, 1) := by decide +kernel
theorem d_222_8 : decode (mth 222).2.1 8 = .ok (.getfield 25, 3) := by decide +kernel
theorem d_222_11 : decode (mth 222).2.1 11 = .ok (.aload_n 0, 1) := by decide +kernel
theorem d_222_12 : decode (mth 222).2.1 12 = .ok (.getfield 200, 3) := by decide +kernel
theorem d_222_15 : decode (mth 222).2.1 15 = .ok (.iload_n 1, 1) := by decide +kernel
theorem d_222_16 : decode (mth 222).2.1 16 = .ok (.iastore, 1) := by decide +kernel
theorem d_222_17 : decode (mth 222).2.1 17 = .ok (.aload_n 0, 1) := by decide +kernel
theorem d_222_18 : decode (mth 222).2.1 18 = .ok (.dup, 1) := by decide +kernel
theorem d_222_19 : decode (mth 222).2.1 19 = .ok (.getfield 200, 3) := by decide +kernel
theorem d_222_22 : decode (mth 222).2.1 22 = .ok (.iconst 1, 1) := by decide +kernel
theorem d_222_23 : decode (mth 222).2.1 23 = .ok (.iadd, 1) := by decide +kernel
theorem d_222_24 : decode (mth 222).2.1 24 = .ok (.putfield 200, 3) := by decide +kernel
theorem d_222_27 : decode (mth 222).2.1 27 = .ok (.return_, 1) := by decide +kernel
/-! 223 PlayedTruthModel.doHere()I -/
theorem d_223_0 : decode (mth 223).2.1 0 = .ok (.aload_n 0, 1) := by decide +kernel
theorem d_223_1 : decode (mth 223).2.1 1 = .ok (.ldc2_w 219, 3) := by decide +kernel
theorem d_223_4 : decode (mth 223).2.1 4 = .ok (.invokevirtual 205, 3) := by decide +kernel
theorem d_223_7 : decode (mth 223).2.1 7 = .ok (.ifCond .eq 7, 3) := by decide +kernel
theorem d_223_10 : decode (mth 223).2.1 10 = .ok (.iconst 0, 1) := by decide +kernel
theorem d_223_11 : decode (mth 223).2.1 11 = .ok (.goto 32, 3) := by decide +kernel
theorem d_223_14 : decode (mth 223).2.1 14 = .ok (.aload_n 0, 1) := by decide +kernel
theorem d_223_15 : decode (mth 223).2.1 15 = .ok (.ldc2_w 221, 3) := by decide +kernel
theorem d_223_18 : decode (mth 223).2.1 18 = .ok (.invokevirtual 205, 3) := by decide +kernel
theorem d_223_21 : decode (mth 223).2.1 21 = .ok (.ifCond .eq 7, 3) := by decide +kernel
theorem d_223_24 : decode (mth 223).2.1 24 = .ok (.iconst 1, 1) := by decide +kernel
theorem d_223_25 : decode (mth 223).2.1 25 = .ok (.goto 18, 3) := by decide +kernel
theorem d_223_28 : decode (mth 223).2.1 28 = .ok (.aload_n 0, 1) := by decide +kernel
theorem d_223_29 : decode (mth 223).2.1 29 = .ok (.ldc2_w 223, 3) := by decide +kernel
theorem d_223_32 : decode (mth 223).2.1 32 = .ok (.invokevirtual 205, 3) := by decide +kernel
theorem d_223_35 : decode (mth 223).2.1 35 = .ok (.ifCond .eq 7, 3) := by decide +kernel
theorem d_223_38 : decode (mth 223).2.1 38 = .ok (.iconst 2, 1) := by decide +kernel
theorem d_223_39 : decode (mth 223).2.1 39 = .ok (.goto 4, 3) := by decide +kernel
theorem d_223_42 : decode (mth 223).2.1 42 = .ok (.iconst (-1), 1) := by decide +kernel
theorem d_223_43 : decode (mth 223).2.1 43 = .ok (.ireturn, 1) := by decide +kernel
/-! 224 PlayedTruthModel.night()I -/
theorem d_224_0 : decode (mth 224).2.1 0 = .ok (.aload_n 0, 1) := by decide +kernel
theorem d_224_1 : decode (mth 224).2.1 1 = .ok (.invokevirtual 128, 3) := by decide +kernel
theorem d_224_4 : decode (mth 224).2.1 4 = .ok (.ifCond .eq 8, 3) := by decide +kernel
theorem d_224_7 : decode (mth 224).2.1 7 = .ok (.bipush (-4), 2) := by decide +kernel
theorem d_224_9 : decode (mth 224).2.1 9 = .ok (.goto 11, 3) := by decide +kernel
theorem d_224_12 : decode (mth 224).2.1 12 = .ok (.aload_n 0, 1) := by decide +kernel
theorem d_224_13 : decode (mth 224).2.1 13 = .ok (.aload_n 0, 1) := by decide +kernel
theorem d_224_14 : decode (mth 224).2.1 14 = .ok (.invokevirtual 132, 3) := by decide +kernel
theorem d_224_17 : decode (mth 224).2.1 17 = .ok (.invokevirtual 135, 3) := by decide +kernel
theorem d_224_20 : decode (mth 224).2.1 20 = .ok (.ireturn, 1) := by decide +kernel
/-! 225 PlayedTruthModel.actOfRest()I -/
theorem d_225_0 : decode (mth 225).2.1 0 = .ok (.iconst 0, 1) := by decide +kernel
theorem d_225_1 : decode (mth 225).2.1 1 = .ok (.istore_n 1, 1) := by decide +kernel
theorem d_225_2 : decode (mth 225).2.1 2 = .ok (.iload_n 1, 1) := by decide +kernel
theorem d_225_3 : decode (mth 225).2.1 3 = .ok (.aload_n 0, 1) := by decide +kernel
theorem d_225_4 : decode (mth 225).2.1 4 = .ok (.getfield 7, 3) := by decide +kernel
theorem d_225_7 : decode (mth 225).2.1 7 = .ok (.iconst 0, 1) := by decide +kernel
theorem d_225_8 : decode (mth 225).2.1 8 = .ok (.iaload, 1) := by decide +kernel
theorem d_225_9 : decode (mth 225).2.1 9 = .ok (.if_icmp .ge 21, 3) := by decide +kernel
theorem d_225_12 : decode (mth 225).2.1 12 = .ok (.aload_n 0, 1) := by decide +kernel
theorem d_225_13 : decode (mth 225).2.1 13 = .ok (.iload_n 1, 1) := by decide +kernel
theorem d_225_14 : decode (mth 225).2.1 14 = .ok (.invokevirtual 124, 3) := by decide +kernel
theorem d_225_17 : decode (mth 225).2.1 17 = .ok (.ifCond .eq 7, 3) := by decide +kernel
theorem d_225_20 : decode (mth 225).2.1 20 = .ok (.iload_n 1, 1) := by decide +kernel
theorem d_225_21 : decode (mth 225).2.1 21 = .ok (.iconst 1, 1) := by decide +kernel
theorem d_225_22 : decode (mth 225).2.1 22 = .ok (.iadd, 1) := by decide +kernel
theorem d_225_23 : decode (mth 225).2.1 23 = .ok (.ireturn, 1) := by decide +kernel
theorem d_225_24 : decode (mth 225).2.1 24 = .ok (.iinc 1 1, 3) := by decide +kernel
theorem d_225_27 : decode (mth 225).2.1 27 = .ok (.goto (-25), 3) := by decide +kernel
theorem d_225_30 : decode (mth 225).2.1 30 = .ok (.iconst 0, 1) := by decide +kernel
theorem d_225_31 : decode (mth 225).2.1 31 = .ok (.ireturn, 1) := by decide +kernel
/-! 226 PlayedTruthModel.nightGoes(I)I -/
theorem d_226_0 : decode (mth 226).2.1 0 = .ok (.iload_n 1, 1) := by decide +kernel
theorem d_226_1 : decode (mth 226).2.1 1 = .ok (.ifCond .le 24, 3) := by decide +kernel
theorem d_226_4 : decode (mth 226).2.1 4 = .ok (.aload_n 0, 1) := by decide +kernel
theorem d_226_5 : decode (mth 226).2.1 5 = .ok (.iload_n 1, 1) := by decide +kernel
theorem d_226_6 : decode (mth 226).2.1 6 = .ok (.iconst 1, 1) := by decide +kernel
theorem d_226_7 : decode (mth 226).2.1 7 = .ok (.isub, 1) := by decide +kernel
theorem d_226_8 : decode (mth 226).2.1 8 = .ok (.iconst 4, 1) := by decide +kernel
theorem d_226_9 : decode (mth 226).2.1 9 = .ok (.invokevirtual 77, 3) := by decide +kernel
theorem d_226_12 : decode (mth 226).2.1 12 = .ok (.ifCond .ne 13, 3) := by decide +kernel
theorem d_226_15 : decode (mth 226).2.1 15 = .ok (.aload_n 0, 1) := by decide +kernel
theorem d_226_16 : decode (mth 226).2.1 16 = .ok (.iload_n 1, 1) := by decide +kernel
theorem d_226_17 : decode (mth 226).2.1 17 = .ok (.iconst 1, 1) := by decide +kernel
theorem d_226_18 : decode (mth 226).2.1 18 = .ok (.isub, 1) := by decide +kernel
theorem d_226_19 : decode (mth 226).2.1 19 = .ok (.invokevirtual 118, 3) := by decide +kernel
theorem d_226_22 : decode (mth 226).2.1 22 = .ok (.goto 4, 3) := by decide +kernel
theorem d_226_25 : decode (mth 226).2.1 25 = .ok (.iconst 0, 1) := by decide +kernel
theorem d_226_26 : decode (mth 226).2.1 26 = .ok (.istore_n 2, 1) := by decide +kernel
theorem d_226_27 : decode (mth 226).2.1 27 = .ok (.iconst 0, 1) := by decide +kernel
theorem d_226_28 : decode (mth 226).2.1 28 = .ok (.istore_n 3, 1) := by decide +kernel
theorem d_226_29 : decode (mth 226).2.1 29 = .ok (.iload_n 3, 1) := by decide +kernel
theorem d_226_30 : decode (mth 226).2.1 30 = .ok (.aload_n 0, 1) := by decide +kernel
theorem d_226_31 : decode (mth 226).2.1 31 = .ok (.getfield 7, 3) := by decide +kernel
theorem d_226_34 : decode (mth 226).2.1 34 = .ok (.iconst 0, 1) := by decide +kernel
theorem d_226_35 : decode (mth 226).2.1 35 = .ok (.iaload, 1) := by decide +kernel
theorem d_226_36 : decode (mth 226).2.1 36 = .ok (.if_icmp .ge 17, 3) := by decide +kernel
theorem d_226_39 : decode (mth 226).2.1 39 = .ok (.iload_n 2, 1) := by decide +kernel
theorem d_226_40 : decode (mth 226).2.1 40 = .ok (.aload_n 0, 1) := by decide +kernel
theorem d_226_41 : decode (mth 226).2.1 41 = .ok (.iload_n 3, 1) := by decide +kernel
theorem d_226_42 : decode (mth 226).2.1 42 = .ok (.invokevirtual 121, 3) := by decide +kernel
theorem d_226_45 : decode (mth 226).2.1 45 = .ok (.iadd, 1) := by decide +kernel
theorem d_226_46 : decode (mth 226).2.1 46 = .ok (.istore_n 2, 1) := by decide +kernel
theorem d_226_47 : decode (mth 226).2.1 47 = .ok (.iinc 3 1, 3) := by decide +kernel
theorem d_226_50 : decode (mth 226).2.1 50 = .ok (.goto (-21), 3) := by decide +kernel
theorem d_226_53 : decode (mth 226).2.1 53 = .ok (.iconst 0, 1) := by decide +kernel
theorem d_226_54 : decode (mth 226).2.1 54 = .ok (.istore_n 3, 1) := by decide +kernel
theorem d_226_55 : decode (mth 226).2.1 55 = .ok (.iload_n 3, 1) := by decide +kernel
theorem d_226_56 : decode (mth 226).2.1 56 = .ok (.aload_n 0, 1) := by decide +kernel
theorem d_226_57 : decode (mth 226).2.1 57 = .ok (.getfield 7, 3) := by decide +kernel
theorem d_226_60 : decode (mth 226).2.1 60 = .ok (.iconst 0, 1) := by decide +kernel
theorem d_226_61 : decode (mth 226).2.1 61 = .ok (.iaload, 1) := by decide +kernel
theorem d_226_62 : decode (mth 226).2.1 62 = .ok (.if_icmp .ge 38, 3) := by decide +kernel
theorem d_226_65 : decode (mth 226).2.1 65 = .ok (.aload_n 0, 1) := by decide +kernel
theorem d_226_66 : decode (mth 226).2.1 66 = .ok (.iload_n 3, 1) := by decide +kernel
theorem d_226_67 : decode (mth 226).2.1 67 = .ok (.iconst 4, 1) := by decide +kernel
theorem d_226_68 : decode (mth 226).2.1 68 = .ok (.invokevirtual 77, 3) := by decide +kernel
theorem d_226_71 : decode (mth 226).2.1 71 = .ok (.ifCond .ne 23, 3) := by decide +kernel
theorem d_226_74 : decode (mth 226).2.1 74 = .ok (.aload_n 0, 1) := by decide +kernel
theorem d_226_75 : decode (mth 226).2.1 75 = .ok (.iload_n 3, 1) := by decide +kernel
theorem d_226_76 : decode (mth 226).2.1 76 = .ok (.iconst 1, 1) := by decide +kernel
theorem d_226_77 : decode (mth 226).2.1 77 = .ok (.aload_n 0, 1) := by decide +kernel
theorem d_226_78 : decode (mth 226).2.1 78 = .ok (.iload_n 3, 1) := by decide +kernel
theorem d_226_79 : decode (mth 226).2.1 79 = .ok (.iconst 1, 1) := by decide +kernel
theorem d_226_80 : decode (mth 226).2.1 80 = .ok (.invokevirtual 77, 3) := by decide +kernel
theorem d_226_83 : decode (mth 226).2.1 83 = .ok (.iconst 1, 1) := by decide +kernel
theorem d_226_84 : decode (mth 226).2.1 84 = .ok (.isub, 1) := by decide +kernel
theorem d_226_85 : decode (mth 226).2.1 85 = .ok (.iconst 0, 1) := by decide +kernel
theorem d_226_86 : decode (mth 226).2.1 86 = .ok (.bipush 99, 2) := by decide +kernel
theorem d_226_88 : decode (mth 226).2.1 88 = .ok (.invokestatic 73, 3) := by decide +kernel
theorem d_226_91 : decode (mth 226).2.1 91 = .ok (.invokevirtual 114, 3) := by decide +kernel
theorem d_226_94 : decode (mth 226).2.1 94 = .ok (.iinc 3 1, 3) := by decide +kernel
theorem d_226_97 : decode (mth 226).2.1 97 = .ok (.goto (-42), 3) := by decide +kernel
theorem d_226_100 : decode (mth 226).2.1 100 = .ok (.aload_n 0, 1) := by decide +kernel
theorem d_226_101 : decode (mth 226).2.1 101 = .ok (.getfield 7, 3) := by decide +kernel
theorem d_226_104 : decode (mth 226).2.1 104 = .ok (.iconst 3, 1) := by decide +kernel
theorem d_226_105 : decode (mth 226).2.1 105 = .ok (.dup2, 1) := by decide +kernel
theorem d_226_106 : decode (mth 226).2.1 106 = .ok (.iaload, 1) := by decide +kernel
theorem d_226_107 : decode (mth 226).2.1 107 = .ok (.iload_n 2, 1) := by decide +kernel
theorem d_226_108 : decode (mth 226).2.1 108 = .ok (.iadd, 1) := by decide +kernel
theorem d_226_109 : decode (mth 226).2.1 109 = .ok (.iastore, 1) := by decide +kernel
theorem d_226_110 : decode (mth 226).2.1 110 = .ok (.aload_n 0, 1) := by decide +kernel
theorem d_226_111 : decode (mth 226).2.1 111 = .ok (.getfield 7, 3) := by decide +kernel
theorem d_226_114 : decode (mth 226).2.1 114 = .ok (.iconst 1, 1) := by decide +kernel
theorem d_226_115 : decode (mth 226).2.1 115 = .ok (.dup2, 1) := by decide +kernel
theorem d_226_116 : decode (mth 226).2.1 116 = .ok (.iaload, 1) := by decide +kernel
theorem d_226_117 : decode (mth 226).2.1 117 = .ok (.iconst 1, 1) := by decide +kernel
theorem d_226_118 : decode (mth 226).2.1 118 = .ok (.iadd, 1) := by decide +kernel
theorem d_226_119 : decode (mth 226).2.1 119 = .ok (.iastore, 1) := by decide +kernel
theorem d_226_120 : decode (mth 226).2.1 120 = .ok (.iload_n 2, 1) := by decide +kernel
theorem d_226_121 : decode (mth 226).2.1 121 = .ok (.ireturn, 1) := by decide +kernel
/-! 227 PlayedTruthModel.does(I)I -/
theorem d_227_0 : decode (mth 227).2.1 0 = .ok (.aload_n 0, 1) := by decide +kernel
theorem d_227_1 : decode (mth 227).2.1 1 = .ok (.iload_n 1, 1) := by decide +kernel
theorem d_227_2 : decode (mth 227).2.1 2 = .ok (.invokevirtual 108, 3) := by decide +kernel
theorem d_227_5 : decode (mth 227).2.1 5 = .ok (.istore_n 2, 1) := by decide +kernel
theorem d_227_6 : decode (mth 227).2.1 6 = .ok (.iload_n 2, 1) := by decide +kernel
theorem d_227_7 : decode (mth 227).2.1 7 = .ok (.ifCond .ne 53, 3) := by decide +kernel
theorem d_227_10 : decode (mth 227).2.1 10 = .ok (.aload_n 0, 1) := by decide +kernel
theorem d_227_11 : decode (mth 227).2.1 11 = .ok (.iload_n 1, 1) := by decide +kernel
theorem d_227_12 : decode (mth 227).2.1 12 = .ok (.invokevirtual 111, 3) := by decide +kernel
theorem d_227_15 : decode (mth 227).2.1 15 = .ok (.istore_n 3, 1) := by decide +kernel
theorem d_227_16 : decode (mth 227).2.1 16 = .ok (.aload_n 0, 1) := by decide +kernel
theorem d_227_17 : decode (mth 227).2.1 17 = .ok (.iload_n 1, 1) := by decide +kernel
theorem d_227_18 : decode (mth 227).2.1 18 = .ok (.iconst 1, 1) := by decide +kernel
theorem d_227_19 : decode (mth 227).2.1 19 = .ok (.aload_n 0, 1) := by decide +kernel
theorem d_227_20 : decode (mth 227).2.1 20 = .ok (.iload_n 1, 1) := by decide +kernel
theorem d_227_21 : decode (mth 227).2.1 21 = .ok (.iconst 1, 1) := by decide +kernel
theorem d_227_22 : decode (mth 227).2.1 22 = .ok (.invokevirtual 77, 3) := by decide +kernel
theorem d_227_25 : decode (mth 227).2.1 25 = .ok (.iload_n 3, 1) := by decide +kernel
theorem d_227_26 : decode (mth 227).2.1 26 = .ok (.iadd, 1) := by decide +kernel
theorem d_227_27 : decode (mth 227).2.1 27 = .ok (.iconst 0, 1) := by decide +kernel
theorem d_227_28 : decode (mth 227).2.1 28 = .ok (.bipush 99, 2) := by decide +kernel
theorem d_227_30 : decode (mth 227).2.1 30 = .ok (.invokestatic 73, 3) := by decide +kernel
theorem d_227_33 : decode (mth 227).2.1 33 = .ok (.invokevirtual 114, 3) := by decide +kernel
theorem d_227_36 : decode (mth 227).2.1 36 = .ok (.aload_n 0, 1) := by decide +kernel
theorem d_227_37 : decode (mth 227).2.1 37 = .ok (.iload_n 1, 1) := by decide +kernel
theorem d_227_38 : decode (mth 227).2.1 38 = .ok (.iconst 4, 1) := by decide +kernel
theorem d_227_39 : decode (mth 227).2.1 39 = .ok (.aload_n 0, 1) := by decide +kernel
theorem d_227_40 : decode (mth 227).2.1 40 = .ok (.iload_n 1, 1) := by decide +kernel
theorem d_227_41 : decode (mth 227).2.1 41 = .ok (.iconst 1, 1) := by decide +kernel
theorem d_227_42 : decode (mth 227).2.1 42 = .ok (.invokevirtual 77, 3) := by decide +kernel
theorem d_227_45 : decode (mth 227).2.1 45 = .ok (.bipush 60, 2) := by decide +kernel
theorem d_227_47 : decode (mth 227).2.1 47 = .ok (.if_icmp .lt 7, 3) := by decide +kernel
theorem d_227_50 : decode (mth 227).2.1 50 = .ok (.iconst 1, 1) := by decide +kernel
theorem d_227_51 : decode (mth 227).2.1 51 = .ok (.goto 4, 3) := by decide +kernel
theorem d_227_54 : decode (mth 227).2.1 54 = .ok (.iconst 0, 1) := by decide +kernel
theorem d_227_55 : decode (mth 227).2.1 55 = .ok (.invokevirtual 114, 3) := by decide +kernel
theorem d_227_58 : decode (mth 227).2.1 58 = .ok (.iload_n 3, 1) := by decide +kernel
theorem d_227_59 : decode (mth 227).2.1 59 = .ok (.ireturn, 1) := by decide +kernel
theorem d_227_60 : decode (mth 227).2.1 60 = .ok (.iload_n 2, 1) := by decide +kernel
theorem d_227_61 : decode (mth 227).2.1 61 = .ok (.iconst 2, 1) := by decide +kernel
theorem d_227_62 : decode (mth 227).2.1 62 = .ok (.if_icmp .ne 59, 3) := by decide +kernel
theorem d_227_65 : decode (mth 227).2.1 65 = .ok (.aload_n 0, 1) := by decide +kernel
theorem d_227_66 : decode (mth 227).2.1 66 = .ok (.iload_n 1, 1) := by decide +kernel
theorem d_227_67 : decode (mth 227).2.1 67 = .ok (.iconst 2, 1) := by decide +kernel
theorem d_227_68 : decode (mth 227).2.1 68 = .ok (.aload_n 0, 1) := by decide +kernel
theorem d_227_69 : decode (mth 227).2.1 69 = .ok (.iload_n 1, 1) := by decide +kernel
theorem d_227_70 : decode (mth 227).2.1 70 = .ok (.iconst 2, 1) := by decide +kernel
theorem d_227_71 : decode (mth 227).2.1 71 = .ok (.invokevirtual 77, 3) := by decide +kernel
theorem d_227_74 : decode (mth 227).2.1 74 = .ok (.iconst 1, 1) := by decide +kernel
theorem d_227_75 : decode (mth 227).2.1 75 = .ok (.iadd, 1) := by decide +kernel
theorem d_227_76 : decode (mth 227).2.1 76 = .ok (.iconst 0, 1) := by decide +kernel
theorem d_227_77 : decode (mth 227).2.1 77 = .ok (.bipush 9, 2) := by decide +kernel
theorem d_227_79 : decode (mth 227).2.1 79 = .ok (.invokestatic 73, 3) := by decide +kernel
theorem d_227_82 : decode (mth 227).2.1 82 = .ok (.invokevirtual 114, 3) := by decide +kernel
theorem d_227_85 : decode (mth 227).2.1 85 = .ok (.aload_n 0, 1) := by decide +kernel
theorem d_227_86 : decode (mth 227).2.1 86 = .ok (.iload_n 1, 1) := by decide +kernel
theorem d_227_87 : decode (mth 227).2.1 87 = .ok (.iconst 1, 1) := by decide +kernel
theorem d_227_88 : decode (mth 227).2.1 88 = .ok (.aload_n 0, 1) := by decide +kernel
theorem d_227_89 : decode (mth 227).2.1 89 = .ok (.iload_n 1, 1) := by decide +kernel
theorem d_227_90 : decode (mth 227).2.1 90 = .ok (.iconst 1, 1) := by decide +kernel
theorem d_227_91 : decode (mth 227).2.1 91 = .ok (.invokevirtual 77, 3) := by decide +kernel
theorem d_227_94 : decode (mth 227).2.1 94 = .ok (.bipush 10, 2) := by decide +kernel
theorem d_227_96 : decode (mth 227).2.1 96 = .ok (.isub, 1) := by decide +kernel
theorem d_227_97 : decode (mth 227).2.1 97 = .ok (.iconst 0, 1) := by decide +kernel
theorem d_227_98 : decode (mth 227).2.1 98 = .ok (.bipush 99, 2) := by decide +kernel
theorem d_227_100 : decode (mth 227).2.1 100 = .ok (.invokestatic 73, 3) := by decide +kernel
theorem d_227_103 : decode (mth 227).2.1 103 = .ok (.invokevirtual 114, 3) := by decide +kernel
theorem d_227_106 : decode (mth 227).2.1 106 = .ok (.iconst 2, 1) := by decide +kernel
theorem d_227_107 : decode (mth 227).2.1 107 = .ok (.aload_n 0, 1) := by decide +kernel
theorem d_227_108 : decode (mth 227).2.1 108 = .ok (.aload_n 0, 1) := by decide +kernel
theorem d_227_109 : decode (mth 227).2.1 109 = .ok (.getfield 7, 3) := by decide +kernel
theorem d_227_112 : decode (mth 227).2.1 112 = .ok (.iconst 1, 1) := by decide +kernel
theorem d_227_113 : decode (mth 227).2.1 113 = .ok (.iaload, 1) := by decide +kernel
theorem d_227_114 : decode (mth 227).2.1 114 = .ok (.invokevirtual 69, 3) := by decide +kernel
theorem d_227_117 : decode (mth 227).2.1 117 = .ok (.iconst 4, 1) := by decide +kernel
theorem d_227_118 : decode (mth 227).2.1 118 = .ok (.irem, 1) := by decide +kernel
theorem d_227_119 : decode (mth 227).2.1 119 = .ok (.imul, 1) := by decide +kernel
theorem d_227_120 : decode (mth 227).2.1 120 = .ok (.ireturn, 1) := by decide +kernel
theorem d_227_121 : decode (mth 227).2.1 121 = .ok (.iconst 0, 1) := by decide +kernel
theorem d_227_122 : decode (mth 227).2.1 122 = .ok (.ireturn, 1) := by decide +kernel
/-! 228 PlayedTruthModel.on(I)I -/
theorem d_228_0 : decode (mth 228).2.1 0 = .ok (.iload_n 1, 1) := by decide +kernel
theorem d_228_1 : decode (mth 228).2.1 1 = .ok (.i2l, 1) := by decide +kernel
theorem d_228_2 : decode (mth 228).2.1 2 = .ok (.lconst 0, 1) := by decide +kernel
theorem d_228_3 : decode (mth 228).2.1 3 = .ok (.ldc2_w 152, 3) := by decide +kernel
theorem d_228_6 : decode (mth 228).2.1 6 = .ok (.invokestatic 58, 3) := by decide +kernel
theorem d_228_9 : decode (mth 228).2.1 9 = .ok (.ifCond .ne 5, 3) := by decide +kernel
theorem d_228_12 : decode (mth 228).2.1 12 = .ok (.iconst (-1), 1) := by decide +kernel
theorem d_228_13 : decode (mth 228).2.1 13 = .ok (.ireturn, 1) := by decide +kernel
theorem d_228_14 : decode (mth 228).2.1 14 = .ok (.aload_n 0, 1) := by decide +kernel
theorem d_228_15 : decode (mth 228).2.1 15 = .ok (.invokevirtual 288, 3) := by decide +kernel
theorem d_228_18 : decode (mth 228).2.1 18 = .ok (.aload_n 0, 1) := by decide +kernel
theorem d_228_19 : decode (mth 228).2.1 19 = .ok (.iload_n 1, 1) := by decide +kernel
theorem d_228_20 : decode (mth 228).2.1 20 = .ok (.invokevirtual 291, 3) := by decide +kernel
theorem d_228_23 : decode (mth 228).2.1 23 = .ok (.istore_n 2, 1) := by decide +kernel
theorem d_228_24 : decode (mth 228).2.1 24 = .ok (.aload_n 0, 1) := by decide +kernel
theorem d_228_25 : decode (mth 228).2.1 25 = .ok (.invokevirtual 294, 3) := by decide +kernel
theorem d_228_28 : decode (mth 228).2.1 28 = .ok (.iload_n 2, 1) := by decide +kernel
theorem d_228_29 : decode (mth 228).2.1 29 = .ok (.ireturn, 1) := by decide +kernel
/-! 229 PlayedTruthModel.puts()V -/
theorem d_229_0 : decode (mth 229).2.1 0 = .ok (.iconst 0, 1) := by decide +kernel
theorem d_229_1 : decode (mth 229).2.1 1 = .ok (.istore_n 1, 1) := by decide +kernel
theorem d_229_2 : decode (mth 229).2.1 2 = .ok (.iload_n 1, 1) := by decide +kernel
theorem d_229_3 : decode (mth 229).2.1 3 = .ok (.bipush 65, 2) := by decide +kernel
theorem d_229_5 : decode (mth 229).2.1 5 = .ok (.if_icmp .ge 29, 3) := by decide +kernel
theorem d_229_8 : decode (mth 229).2.1 8 = .ok (.aload_n 0, 1) := by decide +kernel
theorem d_229_9 : decode (mth 229).2.1 9 = .ok (.getfield 16, 3) := by decide +kernel
theorem d_229_12 : decode (mth 229).2.1 12 = .ok (.bipush 65, 2) := by decide +kernel
theorem d_229_14 : decode (mth 229).2.1 14 = .ok (.aload_n 0, 1) := by decide +kernel
theorem d_229_15 : decode (mth 229).2.1 15 = .ok (.getfield 62, 3) := by decide +kernel
theorem d_229_18 : decode (mth 229).2.1 18 = .ok (.imul, 1) := by decide +kernel
theorem d_229_19 : decode (mth 229).2.1 19 = .ok (.iload_n 1, 1) := by decide +kernel
theorem d_229_20 : decode (mth 229).2.1 20 = .ok (.iadd, 1) := by decide +kernel
theorem d_229_21 : decode (mth 229).2.1 21 = .ok (.aload_n 0, 1) := by decide +kernel
theorem d_229_22 : decode (mth 229).2.1 22 = .ok (.getfield 7, 3) := by decide +kernel
theorem d_229_25 : decode (mth 229).2.1 25 = .ok (.iload_n 1, 1) := by decide +kernel
theorem d_229_26 : decode (mth 229).2.1 26 = .ok (.iaload, 1) := by decide +kernel
theorem d_229_27 : decode (mth 229).2.1 27 = .ok (.iastore, 1) := by decide +kernel
theorem d_229_28 : decode (mth 229).2.1 28 = .ok (.iinc 1 1, 3) := by decide +kernel
theorem d_229_31 : decode (mth 229).2.1 31 = .ok (.goto (-29), 3) := by decide +kernel
theorem d_229_34 : decode (mth 229).2.1 34 = .ok (.aload_n 0, 1) := by decide +kernel
theorem d_229_35 : decode (mth 229).2.1 35 = .ok (.dup, 1) := by decide +kernel
theorem d_229_36 : decode (mth 229).2.1 36 = .ok (.getfield 62, 3) := by decide +kernel
theorem d_229_39 : decode (mth 229).2.1 39 = .ok (.iconst 1, 1) := by decide +kernel
theorem d_229_40 : decode (mth 229).2.1 40 = .ok (.iadd, 1) := by decide +kernel
theorem d_229_41 : decode (mth 229).2.1 41 = .ok (.putfield 62, 3) := by decide +kernel
theorem d_229_44 : decode (mth 229).2.1 44 = .ok (.return_, 1) := by decide +kernel
/-! 230 PlayedTruthModel.restGoes(I)I -/
theorem d_230_0 : decode (mth 230).2.1 0 = .ok (.iconst 0, 1) := by decide +kernel
theorem d_230_1 : decode (mth 230).2.1 1 = .ok (.istore_n 2, 1) := by decide +kernel
theorem d_230_2 : decode (mth 230).2.1 2 = .ok (.iconst 0, 1) := by decide +kernel
theorem d_230_3 : decode (mth 230).2.1 3 = .ok (.istore_n 3, 1) := by decide +kernel
theorem d_230_4 : decode (mth 230).2.1 4 = .ok (.iload_n 3, 1) := by decide +kernel
theorem d_230_5 : decode (mth 230).2.1 5 = .ok (.iload_n 1, 1) := by decide +kernel
theorem d_230_6 : decode (mth 230).2.1 6 = .ok (.if_icmp .ge 27, 3) := by decide +kernel
theorem d_230_9 : decode (mth 230).2.1 9 = .ok (.aload_n 0, 1) := by decide +kernel
theorem d_230_10 : decode (mth 230).2.1 10 = .ok (.invokevirtual 128, 3) := by decide +kernel
theorem d_230_13 : decode (mth 230).2.1 13 = .ok (.ifCond .ne 20, 3) := by decide +kernel
theorem d_230_16 : decode (mth 230).2.1 16 = .ok (.iload_n 2, 1) := by decide +kernel
theorem d_230_17 : decode (mth 230).2.1 17 = .ok (.aload_n 0, 1) := by decide +kernel
theorem d_230_18 : decode (mth 230).2.1 18 = .ok (.aload_n 0, 1) := by decide +kernel
theorem d_230_19 : decode (mth 230).2.1 19 = .ok (.invokevirtual 132, 3) := by decide +kernel
theorem d_230_22 : decode (mth 230).2.1 22 = .ok (.invokevirtual 135, 3) := by decide +kernel
theorem d_230_25 : decode (mth 230).2.1 25 = .ok (.iadd, 1) := by decide +kernel
theorem d_230_26 : decode (mth 230).2.1 26 = .ok (.istore_n 2, 1) := by decide +kernel
theorem d_230_27 : decode (mth 230).2.1 27 = .ok (.iinc 3 1, 3) := by decide +kernel
theorem d_230_30 : decode (mth 230).2.1 30 = .ok (.goto (-26), 3) := by decide +kernel
theorem d_230_33 : decode (mth 230).2.1 33 = .ok (.iload_n 2, 1) := by decide +kernel
theorem d_230_34 : decode (mth 230).2.1 34 = .ok (.ireturn, 1) := by decide +kernel
/-! 231 PlayedTruthModel.takes()V -/
theorem d_231_0 : decode (mth 231).2.1 0 = .ok (.aload_n 0, 1) := by decide +kernel
theorem d_231_1 : decode (mth 231).2.1 1 = .ok (.invokevirtual 66, 3) := by decide +kernel
theorem d_231_4 : decode (mth 231).2.1 4 = .ok (.aload_n 0, 1) := by decide +kernel
theorem d_231_5 : decode (mth 231).2.1 5 = .ok (.dup, 1) := by decide +kernel
theorem d_231_6 : decode (mth 231).2.1 6 = .ok (.getfield 62, 3) := by decide +kernel
theorem d_231_9 : decode (mth 231).2.1 9 = .ok (.iconst 1, 1) := by decide +kernel
theorem d_231_10 : decode (mth 231).2.1 10 = .ok (.isub, 1) := by decide +kernel
theorem d_231_11 : decode (mth 231).2.1 11 = .ok (.putfield 62, 3) := by decide +kernel
theorem d_231_14 : decode (mth 231).2.1 14 = .ok (.return_, 1) := by decide +kernel
/-! 232 PlayedTruthModel.back()V -/
theorem d_232_0 : decode (mth 232).2.1 0 = .ok (.iconst 0, 1) := by decide +kernel
theorem d_232_1 : decode (mth 232).2.1 1 = .ok (.istore_n 1, 1) := by decide +kernel
theorem d_232_2 : decode (mth 232).2.1 2 = .ok (.iload_n 1, 1) := by decide +kernel
theorem d_232_3 : decode (mth 232).2.1 3 = .ok (.bipush 65, 2) := by decide +kernel
theorem d_232_5 : decode (mth 232).2.1 5 = .ok (.if_icmp .ge 31, 3) := by decide +kernel
theorem d_232_8 : decode (mth 232).2.1 8 = .ok (.aload_n 0, 1) := by decide +kernel
theorem d_232_9 : decode (mth 232).2.1 9 = .ok (.getfield 7, 3) := by decide +kernel
theorem d_232_12 : decode (mth 232).2.1 12 = .ok (.iload_n 1, 1) := by decide +kernel
theorem d_232_13 : decode (mth 232).2.1 13 = .ok (.aload_n 0, 1) := by decide +kernel
theorem d_232_14 : decode (mth 232).2.1 14 = .ok (.getfield 16, 3) := by decide +kernel
theorem d_232_17 : decode (mth 232).2.1 17 = .ok (.bipush 65, 2) := by decide +kernel
theorem d_232_19 : decode (mth 232).2.1 19 = .ok (.aload_n 0, 1) := by decide +kernel
theorem d_232_20 : decode (mth 232).2.1 20 = .ok (.getfield 62, 3) := by decide +kernel
theorem d_232_23 : decode (mth 232).2.1 23 = .ok (.iconst 1, 1) := by decide +kernel
theorem d_232_24 : decode (mth 232).2.1 24 = .ok (.isub, 1) := by decide +kernel
theorem d_232_25 : decode (mth 232).2.1 25 = .ok (.imul, 1) := by decide +kernel
theorem d_232_26 : decode (mth 232).2.1 26 = .ok (.iload_n 1, 1) := by decide +kernel
theorem d_232_27 : decode (mth 232).2.1 27 = .ok (.iadd, 1) := by decide +kernel
theorem d_232_28 : decode (mth 232).2.1 28 = .ok (.iaload, 1) := by decide +kernel
theorem d_232_29 : decode (mth 232).2.1 29 = .ok (.iastore, 1) := by decide +kernel
theorem d_232_30 : decode (mth 232).2.1 30 = .ok (.iinc 1 1, 3) := by decide +kernel
theorem d_232_33 : decode (mth 232).2.1 33 = .ok (.goto (-31), 3) := by decide +kernel
theorem d_232_36 : decode (mth 232).2.1 36 = .ok (.return_, 1) := by decide +kernel
/-! 233 PlayedTruthModel.when(I)I -/
theorem d_233_0 : decode (mth 233).2.1 0 = .ok (.aload_n 0, 1) := by decide +kernel
theorem d_233_1 : decode (mth 233).2.1 1 = .ok (.iload_n 1, 1) := by decide +kernel
theorem d_233_2 : decode (mth 233).2.1 2 = .ok (.invokevirtual 144, 3) := by decide +kernel
theorem d_233_5 : decode (mth 233).2.1 5 = .ok (.ifCond .ne 5, 3) := by decide +kernel
theorem d_233_8 : decode (mth 233).2.1 8 = .ok (.iconst (-1), 1) := by decide +kernel
theorem d_233_9 : decode (mth 233).2.1 9 = .ok (.ireturn, 1) := by decide +kernel
theorem d_233_10 : decode (mth 233).2.1 10 = .ok (.aload_n 0, 1) := by decide +kernel
theorem d_233_11 : decode (mth 233).2.1 11 = .ok (.iload_n 1, 1) := by decide +kernel
theorem d_233_12 : decode (mth 233).2.1 12 = .ok (.iconst 4, 1) := by decide +kernel
theorem d_233_13 : decode (mth 233).2.1 13 = .ok (.invokevirtual 77, 3) := by decide +kernel
theorem d_233_16 : decode (mth 233).2.1 16 = .ok (.iconst 1, 1) := by decide +kernel
theorem d_233_17 : decode (mth 233).2.1 17 = .ok (.if_icmp .ne 6, 3) := by decide +kernel
theorem d_233_20 : decode (mth 233).2.1 20 = .ok (.bipush (-3), 2) := by decide +kernel
theorem d_233_22 : decode (mth 233).2.1 22 = .ok (.ireturn, 1) := by decide +kernel
theorem d_233_23 : decode (mth 233).2.1 23 = .ok (.aload_n 0, 1) := by decide +kernel
theorem d_233_24 : decode (mth 233).2.1 24 = .ok (.invokevirtual 288, 3) := by decide +kernel
theorem d_233_27 : decode (mth 233).2.1 27 = .ok (.aload_n 0, 1) := by decide +kernel
theorem d_233_28 : decode (mth 233).2.1 28 = .ok (.invokevirtual 128, 3) := by decide +kernel
theorem d_233_31 : decode (mth 233).2.1 31 = .ok (.ifCond .ne 24, 3) := by decide +kernel
theorem d_233_34 : decode (mth 233).2.1 34 = .ok (.aload_n 0, 1) := by decide +kernel
theorem d_233_35 : decode (mth 233).2.1 35 = .ok (.iload_n 1, 1) := by decide +kernel
theorem d_233_36 : decode (mth 233).2.1 36 = .ok (.iconst 4, 1) := by decide +kernel
theorem d_233_37 : decode (mth 233).2.1 37 = .ok (.invokevirtual 77, 3) := by decide +kernel
theorem d_233_40 : decode (mth 233).2.1 40 = .ok (.ifCond .ne 15, 3) := by decide +kernel
theorem d_233_43 : decode (mth 233).2.1 43 = .ok (.aload_n 0, 1) := by decide +kernel
theorem d_233_44 : decode (mth 233).2.1 44 = .ok (.aload_n 0, 1) := by decide +kernel
theorem d_233_45 : decode (mth 233).2.1 45 = .ok (.invokevirtual 132, 3) := by decide +kernel
theorem d_233_48 : decode (mth 233).2.1 48 = .ok (.invokevirtual 135, 3) := by decide +kernel
theorem d_233_51 : decode (mth 233).2.1 51 = .ok (.pop, 1) := by decide +kernel
theorem d_233_52 : decode (mth 233).2.1 52 = .ok (.goto (-25), 3) := by decide +kernel
theorem d_233_55 : decode (mth 233).2.1 55 = .ok (.aload_n 0, 1) := by decide +kernel
theorem d_233_56 : decode (mth 233).2.1 56 = .ok (.iload_n 1, 1) := by decide +kernel
theorem d_233_57 : decode (mth 233).2.1 57 = .ok (.iconst 4, 1) := by decide +kernel
theorem d_233_58 : decode (mth 233).2.1 58 = .ok (.invokevirtual 77, 3) := by decide +kernel
theorem d_233_61 : decode (mth 233).2.1 61 = .ok (.iconst 1, 1) := by decide +kernel
theorem d_233_62 : decode (mth 233).2.1 62 = .ok (.if_icmp .ne 14, 3) := by decide +kernel
theorem d_233_65 : decode (mth 233).2.1 65 = .ok (.aload_n 0, 1) := by decide +kernel
theorem d_233_66 : decode (mth 233).2.1 66 = .ok (.getfield 7, 3) := by decide +kernel
theorem d_233_69 : decode (mth 233).2.1 69 = .ok (.iconst 1, 1) := by decide +kernel
theorem d_233_70 : decode (mth 233).2.1 70 = .ok (.iaload, 1) := by decide +kernel
theorem d_233_71 : decode (mth 233).2.1 71 = .ok (.iconst 1, 1) := by decide +kernel
theorem d_233_72 : decode (mth 233).2.1 72 = .ok (.isub, 1) := by decide +kernel
theorem d_233_73 : decode (mth 233).2.1 73 = .ok (.goto 5, 3) := by decide +kernel
theorem d_233_76 : decode (mth 233).2.1 76 = .ok (.bipush (-3), 2) := by decide +kernel
theorem d_233_78 : decode (mth 233).2.1 78 = .ok (.istore_n 2, 1) := by decide +kernel
theorem d_233_79 : decode (mth 233).2.1 79 = .ok (.aload_n 0, 1) := by decide +kernel
theorem d_233_80 : decode (mth 233).2.1 80 = .ok (.invokevirtual 294, 3) := by decide +kernel
theorem d_233_83 : decode (mth 233).2.1 83 = .ok (.iload_n 2, 1) := by decide +kernel
theorem d_233_84 : decode (mth 233).2.1 84 = .ok (.ireturn, 1) := by decide +kernel
/-! 234 PlayedTruthModel.prettyFor(I)I -/
theorem d_234_0 : decode (mth 234).2.1 0 = .ok (.aload_n 0, 1) := by decide +kernel
theorem d_234_1 : decode (mth 234).2.1 1 = .ok (.iload_n 1, 1) := by decide +kernel
theorem d_234_2 : decode (mth 234).2.1 2 = .ok (.invokevirtual 144, 3) := by decide +kernel
theorem d_234_5 : decode (mth 234).2.1 5 = .ok (.ifCond .eq 14, 3) := by decide +kernel
theorem d_234_8 : decode (mth 234).2.1 8 = .ok (.aload_n 0, 1) := by decide +kernel
theorem d_234_9 : decode (mth 234).2.1 9 = .ok (.iload_n 1, 1) := by decide +kernel
theorem d_234_10 : decode (mth 234).2.1 10 = .ok (.iconst 2, 1) := by decide +kernel
theorem d_234_11 : decode (mth 234).2.1 11 = .ok (.bipush 9, 2) := by decide +kernel
theorem d_234_13 : decode (mth 234).2.1 13 = .ok (.invokevirtual 297, 3) := by decide +kernel
theorem d_234_16 : decode (mth 234).2.1 16 = .ok (.goto 4, 3) := by decide +kernel
theorem d_234_19 : decode (mth 234).2.1 19 = .ok (.iconst (-1), 1) := by decide +kernel
theorem d_234_20 : decode (mth 234).2.1 20 = .ok (.ireturn, 1) := by decide +kernel
/-! 235 PlayedTruthModel.bestOf(III)I -/
theorem d_235_0 : decode (mth 235).2.1 0 = .ok (.aload_n 0, 1) := by decide +kernel
theorem d_235_1 : decode (mth 235).2.1 1 = .ok (.invokevirtual 288, 3) := by decide +kernel
theorem d_235_4 : decode (mth 235).2.1 4 = .ok (.iconst 0, 1) := by decide +kernel
theorem d_235_5 : decode (mth 235).2.1 5 = .ok (.istore 4, 2) := by decide +kernel
theorem d_235_7 : decode (mth 235).2.1 7 = .ok (.iconst (-1), 1) := by decide +kernel
theorem d_235_8 : decode (mth 235).2.1 8 = .ok (.istore 5, 2) := by decide +kernel
theorem d_235_10 : decode (mth 235).2.1 10 = .ok (.iconst 0, 1) := by decide +kernel
theorem d_235_11 : decode (mth 235).2.1 11 = .ok (.istore 6, 2) := by decide +kernel
theorem d_235_13 : decode (mth 235).2.1 13 = .ok (.iload 6, 2) := by decide +kernel
theorem d_235_15 : decode (mth 235).2.1 15 = .ok (.iload_n 3, 1) := by decide +kernel
theorem d_235_16 : decode (mth 235).2.1 16 = .ok (.if_icmp .gt 44, 3) := by decide +kernel
theorem d_235_19 : decode (mth 235).2.1 19 = .ok (.aload_n 0, 1) := by decide +kernel
theorem d_235_20 : decode (mth 235).2.1 20 = .ok (.iload_n 1, 1) := by decide +kernel
theorem d_235_21 : decode (mth 235).2.1 21 = .ok (.iload_n 2, 1) := by decide +kernel
theorem d_235_22 : decode (mth 235).2.1 22 = .ok (.iload 6, 2) := by decide +kernel
theorem d_235_24 : decode (mth 235).2.1 24 = .ok (.invokevirtual 114, 3) := by decide +kernel
theorem d_235_27 : decode (mth 235).2.1 27 = .ok (.aload_n 0, 1) := by decide +kernel
theorem d_235_28 : decode (mth 235).2.1 28 = .ok (.bipush 16, 2) := by decide +kernel
theorem d_235_30 : decode (mth 235).2.1 30 = .ok (.invokevirtual 291, 3) := by decide +kernel
theorem d_235_33 : decode (mth 235).2.1 33 = .ok (.istore 7, 2) := by decide +kernel
theorem d_235_35 : decode (mth 235).2.1 35 = .ok (.aload_n 0, 1) := by decide +kernel
theorem d_235_36 : decode (mth 235).2.1 36 = .ok (.invokevirtual 66, 3) := by decide +kernel
theorem d_235_39 : decode (mth 235).2.1 39 = .ok (.iload 7, 2) := by decide +kernel
theorem d_235_41 : decode (mth 235).2.1 41 = .ok (.iload 5, 2) := by decide +kernel
theorem d_235_43 : decode (mth 235).2.1 43 = .ok (.if_icmp .le 11, 3) := by decide +kernel
theorem d_235_46 : decode (mth 235).2.1 46 = .ok (.iload 6, 2) := by decide +kernel
theorem d_235_48 : decode (mth 235).2.1 48 = .ok (.istore 4, 2) := by decide +kernel
theorem d_235_50 : decode (mth 235).2.1 50 = .ok (.iload 7, 2) := by decide +kernel
theorem d_235_52 : decode (mth 235).2.1 52 = .ok (.istore 5, 2) := by decide +kernel
theorem d_235_54 : decode (mth 235).2.1 54 = .ok (.iinc 6 1, 3) := by decide +kernel
theorem d_235_57 : decode (mth 235).2.1 57 = .ok (.goto (-44), 3) := by decide +kernel
theorem d_235_60 : decode (mth 235).2.1 60 = .ok (.aload_n 0, 1) := by decide +kernel
theorem d_235_61 : decode (mth 235).2.1 61 = .ok (.invokevirtual 294, 3) := by decide +kernel
theorem d_235_64 : decode (mth 235).2.1 64 = .ok (.iload 4, 2) := by decide +kernel
theorem d_235_66 : decode (mth 235).2.1 66 = .ok (.ireturn, 1) := by decide +kernel
/-! 236 PlayedTruthModel.placeFor(I)I -/
theorem d_236_0 : decode (mth 236).2.1 0 = .ok (.aload_n 0, 1) := by decide +kernel
theorem d_236_1 : decode (mth 236).2.1 1 = .ok (.iload_n 1, 1) := by decide +kernel
theorem d_236_2 : decode (mth 236).2.1 2 = .ok (.invokevirtual 144, 3) := by decide +kernel
theorem d_236_5 : decode (mth 236).2.1 5 = .ok (.ifCond .eq 13, 3) := by decide +kernel
theorem d_236_8 : decode (mth 236).2.1 8 = .ok (.aload_n 0, 1) := by decide +kernel
theorem d_236_9 : decode (mth 236).2.1 9 = .ok (.iload_n 1, 1) := by decide +kernel
theorem d_236_10 : decode (mth 236).2.1 10 = .ok (.iconst 3, 1) := by decide +kernel
theorem d_236_11 : decode (mth 236).2.1 11 = .ok (.iconst 5, 1) := by decide +kernel
theorem d_236_12 : decode (mth 236).2.1 12 = .ok (.invokevirtual 297, 3) := by decide +kernel
theorem d_236_15 : decode (mth 236).2.1 15 = .ok (.goto 4, 3) := by decide +kernel
theorem d_236_18 : decode (mth 236).2.1 18 = .ok (.iconst (-1), 1) := by decide +kernel
theorem d_236_19 : decode (mth 236).2.1 19 = .ok (.ireturn, 1) := by decide +kernel
/-! 237 PlayedTruthModel.truth(I)I -/
theorem d_237_0 : decode (mth 237).2.1 0 = .ok (.iload_n 1, 1) := by decide +kernel
theorem d_237_1 : decode (mth 237).2.1 1 = .ok (.i2l, 1) := by decide +kernel
theorem d_237_2 : decode (mth 237).2.1 2 = .ok (.lconst 0, 1) := by decide +kernel
theorem d_237_3 : decode (mth 237).2.1 3 = .ok (.ldc2_w 300, 3) := by decide +kernel
theorem d_237_6 : decode (mth 237).2.1 6 = .ok (.invokestatic 58, 3) := by decide +kernel
theorem d_237_9 : decode (mth 237).2.1 9 = .ok (.ifCond .ne 5, 3) := by decide +kernel
theorem d_237_12 : decode (mth 237).2.1 12 = .ok (.iconst (-1), 1) := by decide +kernel
theorem d_237_13 : decode (mth 237).2.1 13 = .ok (.ireturn, 1) := by decide +kernel
theorem d_237_14 : decode (mth 237).2.1 14 = .ok (.aload_n 0, 1) := by decide +kernel
theorem d_237_15 : decode (mth 237).2.1 15 = .ok (.invokevirtual 288, 3) := by decide +kernel
theorem d_237_18 : decode (mth 237).2.1 18 = .ok (.aload_n 0, 1) := by decide +kernel
theorem d_237_19 : decode (mth 237).2.1 19 = .ok (.invokevirtual 128, 3) := by decide +kernel
theorem d_237_22 : decode (mth 237).2.1 22 = .ok (.ifCond .ne 23, 3) := by decide +kernel
theorem d_237_25 : decode (mth 237).2.1 25 = .ok (.aload_n 0, 1) := by decide +kernel
theorem d_237_26 : decode (mth 237).2.1 26 = .ok (.invokevirtual 157, 3) := by decide +kernel
theorem d_237_29 : decode (mth 237).2.1 29 = .ok (.iload_n 1, 1) := by decide +kernel
theorem d_237_30 : decode (mth 237).2.1 30 = .ok (.if_icmp .ge 15, 3) := by decide +kernel
theorem d_237_33 : decode (mth 237).2.1 33 = .ok (.aload_n 0, 1) := by decide +kernel
theorem d_237_34 : decode (mth 237).2.1 34 = .ok (.aload_n 0, 1) := by decide +kernel
theorem d_237_35 : decode (mth 237).2.1 35 = .ok (.invokevirtual 132, 3) := by decide +kernel
theorem d_237_38 : decode (mth 237).2.1 38 = .ok (.invokevirtual 135, 3) := by decide +kernel
theorem d_237_41 : decode (mth 237).2.1 41 = .ok (.pop, 1) := by decide +kernel
theorem d_237_42 : decode (mth 237).2.1 42 = .ok (.goto (-24), 3) := by decide +kernel
theorem d_237_45 : decode (mth 237).2.1 45 = .ok (.aload_n 0, 1) := by decide +kernel
theorem d_237_46 : decode (mth 237).2.1 46 = .ok (.invokevirtual 157, 3) := by decide +kernel
theorem d_237_49 : decode (mth 237).2.1 49 = .ok (.iload_n 1, 1) := by decide +kernel
theorem d_237_50 : decode (mth 237).2.1 50 = .ok (.if_icmp .lt 12, 3) := by decide +kernel
theorem d_237_53 : decode (mth 237).2.1 53 = .ok (.aload_n 0, 1) := by decide +kernel
theorem d_237_54 : decode (mth 237).2.1 54 = .ok (.getfield 7, 3) := by decide +kernel
theorem d_237_57 : decode (mth 237).2.1 57 = .ok (.iconst 1, 1) := by decide +kernel
theorem d_237_58 : decode (mth 237).2.1 58 = .ok (.iaload, 1) := by decide +kernel
theorem d_237_59 : decode (mth 237).2.1 59 = .ok (.goto 5, 3) := by decide +kernel
theorem d_237_62 : decode (mth 237).2.1 62 = .ok (.bipush (-3), 2) := by decide +kernel
theorem d_237_64 : decode (mth 237).2.1 64 = .ok (.istore_n 2, 1) := by decide +kernel
theorem d_237_65 : decode (mth 237).2.1 65 = .ok (.aload_n 0, 1) := by decide +kernel
theorem d_237_66 : decode (mth 237).2.1 66 = .ok (.invokevirtual 294, 3) := by decide +kernel
theorem d_237_69 : decode (mth 237).2.1 69 = .ok (.iload_n 2, 1) := by decide +kernel
theorem d_237_70 : decode (mth 237).2.1 70 = .ok (.ireturn, 1) := by decide +kernel
/-! 238 PlayedTruthModel.props(I)I -/
theorem d_238_0 : decode (mth 238).2.1 0 = .ok (.aload_n 0, 1) := by decide +kernel
theorem d_238_1 : decode (mth 238).2.1 1 = .ok (.iload_n 1, 1) := by decide +kernel
theorem d_238_2 : decode (mth 238).2.1 2 = .ok (.invokevirtual 144, 3) := by decide +kernel
theorem d_238_5 : decode (mth 238).2.1 5 = .ok (.ifCond .ne 5, 3) := by decide +kernel
theorem d_238_8 : decode (mth 238).2.1 8 = .ok (.iconst (-1), 1) := by decide +kernel
theorem d_238_9 : decode (mth 238).2.1 9 = .ok (.ireturn, 1) := by decide +kernel
theorem d_238_10 : decode (mth 238).2.1 10 = .ok (.iconst 1, 1) := by decide +kernel
theorem d_238_11 : decode (mth 238).2.1 11 = .ok (.iload_n 1, 1) := by decide +kernel
theorem d_238_12 : decode (mth 238).2.1 12 = .ok (.ishl, 1) := by decide +kernel
theorem d_238_13 : decode (mth 238).2.1 13 = .ok (.istore_n 2, 1) := by decide +kernel
theorem d_238_14 : decode (mth 238).2.1 14 = .ok (.aload_n 0, 1) := by decide +kernel
theorem d_238_15 : decode (mth 238).2.1 15 = .ok (.iload_n 1, 1) := by decide +kernel
theorem d_238_16 : decode (mth 238).2.1 16 = .ok (.iconst 3, 1) := by decide +kernel
theorem d_238_17 : decode (mth 238).2.1 17 = .ok (.invokevirtual 77, 3) := by decide +kernel
theorem d_238_20 : decode (mth 238).2.1 20 = .ok (.iconst 1, 1) := by decide +kernel
theorem d_238_21 : decode (mth 238).2.1 21 = .ok (.isub, 1) := by decide +kernel
theorem d_238_22 : decode (mth 238).2.1 22 = .ok (.istore_n 3, 1) := by decide +kernel
theorem d_238_23 : decode (mth 238).2.1 23 = .ok (.iload_n 3, 1) := by decide +kernel
theorem d_238_24 : decode (mth 238).2.1 24 = .ok (.ifCond .lt 25, 3) := by decide +kernel
theorem d_238_27 : decode (mth 238).2.1 27 = .ok (.aload_n 0, 1) := by decide +kernel
theorem d_238_28 : decode (mth 238).2.1 28 = .ok (.iload_n 3, 1) := by decide +kernel
theorem d_238_29 : decode (mth 238).2.1 29 = .ok (.invokevirtual 302, 3) := by decide +kernel
theorem d_238_32 : decode (mth 238).2.1 32 = .ok (.ifCond .eq 17, 3) := by decide +kernel
theorem d_238_35 : decode (mth 238).2.1 35 = .ok (.iload_n 2, 1) := by decide +kernel
theorem d_238_36 : decode (mth 238).2.1 36 = .ok (.aload_n 0, 1) := by decide +kernel
theorem d_238_37 : decode (mth 238).2.1 37 = .ok (.iload_n 3, 1) := by decide +kernel
theorem d_238_38 : decode (mth 238).2.1 38 = .ok (.invokevirtual 302, 3) := by decide +kernel
theorem d_238_41 : decode (mth 238).2.1 41 = .ok (.ior, 1) := by decide +kernel
theorem d_238_42 : decode (mth 238).2.1 42 = .ok (.istore_n 2, 1) := by decide +kernel
theorem d_238_43 : decode (mth 238).2.1 43 = .ok (.iinc 3 (-1), 3) := by decide +kernel
theorem d_238_46 : decode (mth 238).2.1 46 = .ok (.goto (-23), 3) := by decide +kernel
theorem d_238_49 : decode (mth 238).2.1 49 = .ok (.iload_n 2, 1) := by decide +kernel
theorem d_238_50 : decode (mth 238).2.1 50 = .ok (.ireturn, 1) := by decide +kernel
/-! 239 PlayedTruthModel.scenesAt(I)I -/
theorem d_239_0 : decode (mth 239).2.1 0 = .ok (.iconst 0, 1) := by decide +kernel
theorem d_239_1 : decode (mth 239).2.1 1 = .ok (.istore_n 2, 1) := by decide +kernel
theorem d_239_2 : decode (mth 239).2.1 2 = .ok (.iconst 0, 1) := by decide +kernel
theorem d_239_3 : decode (mth 239).2.1 3 = .ok (.istore_n 3, 1) := by decide +kernel
theorem d_239_4 : decode (mth 239).2.1 4 = .ok (.iload_n 3, 1) := by decide +kernel
theorem d_239_5 : decode (mth 239).2.1 5 = .ok (.aload_n 0, 1) := by decide +kernel
theorem d_239_6 : decode (mth 239).2.1 6 = .ok (.getfield 7, 3) := by decide +kernel
theorem d_239_9 : decode (mth 239).2.1 9 = .ok (.iconst 0, 1) := by decide +kernel
theorem d_239_10 : decode (mth 239).2.1 10 = .ok (.iaload, 1) := by decide +kernel
theorem d_239_11 : decode (mth 239).2.1 11 = .ok (.if_icmp .ge 29, 3) := by decide +kernel
theorem d_239_14 : decode (mth 239).2.1 14 = .ok (.iload_n 2, 1) := by decide +kernel
theorem d_239_15 : decode (mth 239).2.1 15 = .ok (.aload_n 0, 1) := by decide +kernel
theorem d_239_16 : decode (mth 239).2.1 16 = .ok (.iload_n 3, 1) := by decide +kernel
theorem d_239_17 : decode (mth 239).2.1 17 = .ok (.iconst 3, 1) := by decide +kernel
theorem d_239_18 : decode (mth 239).2.1 18 = .ok (.invokevirtual 77, 3) := by decide +kernel
theorem d_239_21 : decode (mth 239).2.1 21 = .ok (.iload_n 1, 1) := by decide +kernel
theorem d_239_22 : decode (mth 239).2.1 22 = .ok (.if_icmp .ne 9, 3) := by decide +kernel
theorem d_239_25 : decode (mth 239).2.1 25 = .ok (.iconst 1, 1) := by decide +kernel
theorem d_239_26 : decode (mth 239).2.1 26 = .ok (.iload_n 3, 1) := by decide +kernel
theorem d_239_27 : decode (mth 239).2.1 27 = .ok (.ishl, 1) := by decide +kernel
theorem d_239_28 : decode (mth 239).2.1 28 = .ok (.goto 4, 3) := by decide +kernel
theorem d_239_31 : decode (mth 239).2.1 31 = .ok (.iconst 0, 1) := by decide +kernel
theorem d_239_32 : decode (mth 239).2.1 32 = .ok (.ior, 1) := by decide +kernel
theorem d_239_33 : decode (mth 239).2.1 33 = .ok (.istore_n 2, 1) := by decide +kernel
theorem d_239_34 : decode (mth 239).2.1 34 = .ok (.iinc 3 1, 3) := by decide +kernel
theorem d_239_37 : decode (mth 239).2.1 37 = .ok (.goto (-33), 3) := by decide +kernel
theorem d_239_40 : decode (mth 239).2.1 40 = .ok (.iload_n 2, 1) := by decide +kernel
theorem d_239_41 : decode (mth 239).2.1 41 = .ok (.ireturn, 1) := by decide +kernel
/-! 240 PlayedTruthModel.strands(I)I -/
theorem d_240_0 : decode (mth 240).2.1 0 = .ok (.iload_n 1, 1) := by decide +kernel
theorem d_240_1 : decode (mth 240).2.1 1 = .ok (.i2l, 1) := by decide +kernel
theorem d_240_2 : decode (mth 240).2.1 2 = .ok (.ldc2_w 188, 3) := by decide +kernel
theorem d_240_5 : decode (mth 240).2.1 5 = .ok (.aload_n 0, 1) := by decide +kernel
theorem d_240_6 : decode (mth 240).2.1 6 = .ok (.getfield 7, 3) := by decide +kernel
theorem d_240_9 : decode (mth 240).2.1 9 = .ok (.iconst 0, 1) := by decide +kernel
theorem d_240_10 : decode (mth 240).2.1 10 = .ok (.iaload, 1) := by decide +kernel
theorem d_240_11 : decode (mth 240).2.1 11 = .ok (.iconst 1, 1) := by decide +kernel
theorem d_240_12 : decode (mth 240).2.1 12 = .ok (.isub, 1) := by decide +kernel
theorem d_240_13 : decode (mth 240).2.1 13 = .ok (.i2l, 1) := by decide +kernel
theorem d_240_14 : decode (mth 240).2.1 14 = .ok (.invokestatic 58, 3) := by decide +kernel
theorem d_240_17 : decode (mth 240).2.1 17 = .ok (.ifCond .ne 5, 3) := by decide +kernel
theorem d_240_20 : decode (mth 240).2.1 20 = .ok (.iconst (-1), 1) := by decide +kernel
theorem d_240_21 : decode (mth 240).2.1 21 = .ok (.ireturn, 1) := by decide +kernel
theorem d_240_22 : decode (mth 240).2.1 22 = .ok (.iload_n 1, 1) := by decide +kernel
theorem d_240_23 : decode (mth 240).2.1 23 = .ok (.ifCond .lt 9, 3) := by decide +kernel
theorem d_240_26 : decode (mth 240).2.1 26 = .ok (.aload_n 0, 1) := by decide +kernel
theorem d_240_27 : decode (mth 240).2.1 27 = .ok (.iload_n 1, 1) := by decide +kernel
theorem d_240_28 : decode (mth 240).2.1 28 = .ok (.invokevirtual 312, 3) := by decide +kernel
theorem d_240_31 : decode (mth 240).2.1 31 = .ok (.ireturn, 1) := by decide +kernel
theorem d_240_32 : decode (mth 240).2.1 32 = .ok (.iconst 0, 1) := by decide +kernel
theorem d_240_33 : decode (mth 240).2.1 33 = .ok (.istore_n 2, 1) := by decide +kernel
theorem d_240_34 : decode (mth 240).2.1 34 = .ok (.iconst 0, 1) := by decide +kernel
theorem d_240_35 : decode (mth 240).2.1 35 = .ok (.istore_n 3, 1) := by decide +kernel
theorem d_240_36 : decode (mth 240).2.1 36 = .ok (.iconst 0, 1) := by decide +kernel
theorem d_240_37 : decode (mth 240).2.1 37 = .ok (.istore 4, 2) := by decide +kernel
theorem d_240_39 : decode (mth 240).2.1 39 = .ok (.iload 4, 2) := by decide +kernel
theorem d_240_41 : decode (mth 240).2.1 41 = .ok (.aload_n 0, 1) := by decide +kernel
theorem d_240_42 : decode (mth 240).2.1 42 = .ok (.getfield 7, 3) := by decide +kernel
theorem d_240_45 : decode (mth 240).2.1 45 = .ok (.iconst 0, 1) := by decide +kernel
theorem d_240_46 : decode (mth 240).2.1 46 = .ok (.iaload, 1) := by decide +kernel
theorem d_240_47 : decode (mth 240).2.1 47 = .ok (.if_icmp .ge 45, 3) := by decide +kernel
theorem d_240_50 : decode (mth 240).2.1 50 = .ok (.iload_n 3, 1) := by decide +kernel
theorem d_240_51 : decode (mth 240).2.1 51 = .ok (.aload_n 0, 1) := by decide +kernel
theorem d_240_52 : decode (mth 240).2.1 52 = .ok (.iload 4, 2) := by decide +kernel
theorem d_240_54 : decode (mth 240).2.1 54 = .ok (.iconst 4, 1) := by decide +kernel
theorem d_240_55 : decode (mth 240).2.1 55 = .ok (.invokevirtual 77, 3) := by decide +kernel
theorem d_240_58 : decode (mth 240).2.1 58 = .ok (.ifCond .ne 16, 3) := by decide +kernel
theorem d_240_61 : decode (mth 240).2.1 61 = .ok (.iload_n 2, 1) := by decide +kernel
theorem d_240_62 : decode (mth 240).2.1 62 = .ok (.iload 4, 2) := by decide +kernel
theorem d_240_64 : decode (mth 240).2.1 64 = .ok (.ishr, 1) := by decide +kernel
theorem d_240_65 : decode (mth 240).2.1 65 = .ok (.iconst 1, 1) := by decide +kernel
theorem d_240_66 : decode (mth 240).2.1 66 = .ok (.iand, 1) := by decide +kernel
theorem d_240_67 : decode (mth 240).2.1 67 = .ok (.ifCond .ne 7, 3) := by decide +kernel
theorem d_240_70 : decode (mth 240).2.1 70 = .ok (.iconst 1, 1) := by decide +kernel
theorem d_240_71 : decode (mth 240).2.1 71 = .ok (.goto 4, 3) := by decide +kernel
theorem d_240_74 : decode (mth 240).2.1 74 = .ok (.iconst 0, 1) := by decide +kernel
theorem d_240_75 : decode (mth 240).2.1 75 = .ok (.iadd, 1) := by decide +kernel
theorem d_240_76 : decode (mth 240).2.1 76 = .ok (.istore_n 3, 1) := by decide +kernel
theorem d_240_77 : decode (mth 240).2.1 77 = .ok (.iload_n 2, 1) := by decide +kernel
theorem d_240_78 : decode (mth 240).2.1 78 = .ok (.aload_n 0, 1) := by decide +kernel
theorem d_240_79 : decode (mth 240).2.1 79 = .ok (.iload 4, 2) := by decide +kernel
theorem d_240_81 : decode (mth 240).2.1 81 = .ok (.invokevirtual 312, 3) := by decide +kernel
theorem d_240_84 : decode (mth 240).2.1 84 = .ok (.ior, 1) := by decide +kernel
theorem d_240_85 : decode (mth 240).2.1 85 = .ok (.istore_n 2, 1) := by decide +kernel
theorem d_240_86 : decode (mth 240).2.1 86 = .ok (.iinc 4 1, 3) := by decide +kernel
theorem d_240_89 : decode (mth 240).2.1 89 = .ok (.goto (-50), 3) := by decide +kernel
theorem d_240_92 : decode (mth 240).2.1 92 = .ok (.iload_n 3, 1) := by decide +kernel
theorem d_240_93 : decode (mth 240).2.1 93 = .ok (.ireturn, 1) := by decide +kernel
/-! 241 PlayedTruthModel.strandOf(I)I -/
theorem d_241_0 : decode (mth 241).2.1 0 = .ok (.aload_n 0, 1) := by decide +kernel
theorem d_241_1 : decode (mth 241).2.1 1 = .ok (.iload_n 1, 1) := by decide +kernel
theorem d_241_2 : decode (mth 241).2.1 2 = .ok (.iconst 4, 1) := by decide +kernel
theorem d_241_3 : decode (mth 241).2.1 3 = .ok (.invokevirtual 77, 3) := by decide +kernel
theorem d_241_6 : decode (mth 241).2.1 6 = .ok (.iconst 1, 1) := by decide +kernel
theorem d_241_7 : decode (mth 241).2.1 7 = .ok (.if_icmp .ne 7, 3) := by decide +kernel
theorem d_241_10 : decode (mth 241).2.1 10 = .ok (.iconst 0, 1) := by decide +kernel
theorem d_241_11 : decode (mth 241).2.1 11 = .ok (.goto 6, 3) := by decide +kernel
theorem d_241_14 : decode (mth 241).2.1 14 = .ok (.iconst 1, 1) := by decide +kernel
theorem d_241_15 : decode (mth 241).2.1 15 = .ok (.iload_n 1, 1) := by decide +kernel
theorem d_241_16 : decode (mth 241).2.1 16 = .ok (.ishl, 1) := by decide +kernel
theorem d_241_17 : decode (mth 241).2.1 17 = .ok (.istore_n 2, 1) := by decide +kernel
theorem d_241_18 : decode (mth 241).2.1 18 = .ok (.iconst 0, 1) := by decide +kernel
theorem d_241_19 : decode (mth 241).2.1 19 = .ok (.istore_n 3, 1) := by decide +kernel
theorem d_241_20 : decode (mth 241).2.1 20 = .ok (.iload_n 3, 1) := by decide +kernel
theorem d_241_21 : decode (mth 241).2.1 21 = .ok (.bipush 6, 2) := by decide +kernel
theorem d_241_23 : decode (mth 241).2.1 23 = .ok (.if_icmp .ge 81, 3) := by decide +kernel
theorem d_241_26 : decode (mth 241).2.1 26 = .ok (.iconst 0, 1) := by decide +kernel
theorem d_241_27 : decode (mth 241).2.1 27 = .ok (.istore 4, 2) := by decide +kernel
theorem d_241_29 : decode (mth 241).2.1 29 = .ok (.iload 4, 2) := by decide +kernel
theorem d_241_31 : decode (mth 241).2.1 31 = .ok (.aload_n 0, 1) := by decide +kernel
theorem d_241_32 : decode (mth 241).2.1 32 = .ok (.getfield 7, 3) := by decide +kernel
theorem d_241_35 : decode (mth 241).2.1 35 = .ok (.iconst 0, 1) := by decide +kernel
theorem d_241_36 : decode (mth 241).2.1 36 = .ok (.iaload, 1) := by decide +kernel
theorem d_241_37 : decode (mth 241).2.1 37 = .ok (.if_icmp .ge 61, 3) := by decide +kernel
theorem d_241_40 : decode (mth 241).2.1 40 = .ok (.iconst 0, 1) := by decide +kernel
theorem d_241_41 : decode (mth 241).2.1 41 = .ok (.istore 5, 2) := by decide +kernel
theorem d_241_43 : decode (mth 241).2.1 43 = .ok (.iload 5, 2) := by decide +kernel
theorem d_241_45 : decode (mth 241).2.1 45 = .ok (.aload_n 0, 1) := by decide +kernel
theorem d_241_46 : decode (mth 241).2.1 46 = .ok (.getfield 7, 3) := by decide +kernel
theorem d_241_49 : decode (mth 241).2.1 49 = .ok (.iconst 0, 1) := by decide +kernel
theorem d_241_50 : decode (mth 241).2.1 50 = .ok (.iaload, 1) := by decide +kernel
theorem d_241_51 : decode (mth 241).2.1 51 = .ok (.if_icmp .ge 41, 3) := by decide +kernel
theorem d_241_54 : decode (mth 241).2.1 54 = .ok (.iload_n 2, 1) := by decide +kernel
theorem d_241_55 : decode (mth 241).2.1 55 = .ok (.iload_n 2, 1) := by decide +kernel
theorem d_241_56 : decode (mth 241).2.1 56 = .ok (.iload 4, 2) := by decide +kernel
theorem d_241_58 : decode (mth 241).2.1 58 = .ok (.ishr, 1) := by decide +kernel
theorem d_241_59 : decode (mth 241).2.1 59 = .ok (.iconst 1, 1) := by decide +kernel
theorem d_241_60 : decode (mth 241).2.1 60 = .ok (.iand, 1) := by decide +kernel
theorem d_241_61 : decode (mth 241).2.1 61 = .ok (.iconst 1, 1) := by decide +kernel
theorem d_241_62 : decode (mth 241).2.1 62 = .ok (.if_icmp .ne 21, 3) := by decide +kernel
theorem d_241_65 : decode (mth 241).2.1 65 = .ok (.aload_n 0, 1) := by decide +kernel
theorem d_241_66 : decode (mth 241).2.1 66 = .ok (.iload 4, 2) := by decide +kernel
theorem d_241_68 : decode (mth 241).2.1 68 = .ok (.iload 5, 2) := by decide +kernel
theorem d_241_70 : decode (mth 241).2.1 70 = .ok (.invokevirtual 308, 3) := by decide +kernel
theorem d_241_73 : decode (mth 241).2.1 73 = .ok (.ifCond .eq 10, 3) := by decide +kernel
theorem d_241_76 : decode (mth 241).2.1 76 = .ok (.iconst 1, 1) := by decide +kernel
theorem d_241_77 : decode (mth 241).2.1 77 = .ok (.iload 5, 2) := by decide +kernel
theorem d_241_79 : decode (mth 241).2.1 79 = .ok (.ishl, 1) := by decide +kernel
theorem d_241_80 : decode (mth 241).2.1 80 = .ok (.goto 4, 3) := by decide +kernel
theorem d_241_83 : decode (mth 241).2.1 83 = .ok (.iconst 0, 1) := by decide +kernel
theorem d_241_84 : decode (mth 241).2.1 84 = .ok (.ior, 1) := by decide +kernel
theorem d_241_85 : decode (mth 241).2.1 85 = .ok (.istore_n 2, 1) := by decide +kernel
theorem d_241_86 : decode (mth 241).2.1 86 = .ok (.iinc 5 1, 3) := by decide +kernel
theorem d_241_89 : decode (mth 241).2.1 89 = .ok (.goto (-46), 3) := by decide +kernel
theorem d_241_92 : decode (mth 241).2.1 92 = .ok (.iinc 4 1, 3) := by decide +kernel
theorem d_241_95 : decode (mth 241).2.1 95 = .ok (.goto (-66), 3) := by decide +kernel
theorem d_241_98 : decode (mth 241).2.1 98 = .ok (.iinc 3 1, 3) := by decide +kernel
theorem d_241_101 : decode (mth 241).2.1 101 = .ok (.goto (-81), 3) := by decide +kernel
theorem d_241_104 : decode (mth 241).2.1 104 = .ok (.iload_n 2, 1) := by decide +kernel
theorem d_241_105 : decode (mth 241).2.1 105 = .ok (.ireturn, 1) := by decide +kernel
/-! 242 PlayedTruthModel.isClose(II)Z -/
theorem d_242_0 : decode (mth 242).2.1 0 = .ok (.aload_n 0, 1) := by decide +kernel
theorem d_242_1 : decode (mth 242).2.1 1 = .ok (.iload_n 1, 1) := by decide +kernel
theorem d_242_2 : decode (mth 242).2.1 2 = .ok (.iconst 4, 1) := by decide +kernel
theorem d_242_3 : decode (mth 242).2.1 3 = .ok (.invokevirtual 77, 3) := by decide +kernel
theorem d_242_6 : decode (mth 242).2.1 6 = .ok (.aload_n 0, 1) := by decide +kernel
theorem d_242_7 : decode (mth 242).2.1 7 = .ok (.iload_n 2, 1) := by decide +kernel
theorem d_242_8 : decode (mth 242).2.1 8 = .ok (.iconst 4, 1) := by decide +kernel
theorem d_242_9 : decode (mth 242).2.1 9 = .ok (.invokevirtual 77, 3) := by decide +kernel
theorem d_242_12 : decode (mth 242).2.1 12 = .ok (.iadd, 1) := by decide +kernel
theorem d_242_13 : decode (mth 242).2.1 13 = .ok (.ifCond .ne 42, 3) := by decide +kernel
theorem d_242_16 : decode (mth 242).2.1 16 = .ok (.aload_n 0, 1) := by decide +kernel
theorem d_242_17 : decode (mth 242).2.1 17 = .ok (.iload_n 1, 1) := by decide +kernel
theorem d_242_18 : decode (mth 242).2.1 18 = .ok (.iconst 3, 1) := by decide +kernel
theorem d_242_19 : decode (mth 242).2.1 19 = .ok (.invokevirtual 77, 3) := by decide +kernel
theorem d_242_22 : decode (mth 242).2.1 22 = .ok (.aload_n 0, 1) := by decide +kernel
theorem d_242_23 : decode (mth 242).2.1 23 = .ok (.iload_n 2, 1) := by decide +kernel
theorem d_242_24 : decode (mth 242).2.1 24 = .ok (.iconst 3, 1) := by decide +kernel
theorem d_242_25 : decode (mth 242).2.1 25 = .ok (.invokevirtual 77, 3) := by decide +kernel
theorem d_242_28 : decode (mth 242).2.1 28 = .ok (.if_icmp .eq 23, 3) := by decide +kernel
theorem d_242_31 : decode (mth 242).2.1 31 = .ok (.aload_n 0, 1) := by decide +kernel
theorem d_242_32 : decode (mth 242).2.1 32 = .ok (.iload_n 1, 1) := by decide +kernel
theorem d_242_33 : decode (mth 242).2.1 33 = .ok (.iconst 1, 1) := by decide +kernel
theorem d_242_34 : decode (mth 242).2.1 34 = .ok (.invokevirtual 77, 3) := by decide +kernel
theorem d_242_37 : decode (mth 242).2.1 37 = .ok (.aload_n 0, 1) := by decide +kernel
theorem d_242_38 : decode (mth 242).2.1 38 = .ok (.iload_n 2, 1) := by decide +kernel
theorem d_242_39 : decode (mth 242).2.1 39 = .ok (.iconst 1, 1) := by decide +kernel
theorem d_242_40 : decode (mth 242).2.1 40 = .ok (.invokevirtual 77, 3) := by decide +kernel
theorem d_242_43 : decode (mth 242).2.1 43 = .ok (.isub, 1) := by decide +kernel
theorem d_242_44 : decode (mth 242).2.1 44 = .ok (.invokestatic 305, 3) := by decide +kernel
theorem d_242_47 : decode (mth 242).2.1 47 = .ok (.iconst 3, 1) := by decide +kernel
theorem d_242_48 : decode (mth 242).2.1 48 = .ok (.if_icmp .gt 7, 3) := by decide +kernel
theorem d_242_51 : decode (mth 242).2.1 51 = .ok (.iconst 1, 1) := by decide +kernel
theorem d_242_52 : decode (mth 242).2.1 52 = .ok (.goto 4, 3) := by decide +kernel
theorem d_242_55 : decode (mth 242).2.1 55 = .ok (.iconst 0, 1) := by decide +kernel
theorem d_242_56 : decode (mth 242).2.1 56 = .ok (.ireturn, 1) := by decide +kernel
/-! 243 PlayedTruthModel.size(I)I -/
theorem d_243_0 : decode (mth 243).2.1 0 = .ok (.iload_n 0, 1) := by decide +kernel
theorem d_243_1 : decode (mth 243).2.1 1 = .ok (.ifCond .ge 8, 3) := by decide +kernel
theorem d_243_4 : decode (mth 243).2.1 4 = .ok (.iload_n 0, 1) := by decide +kernel
theorem d_243_5 : decode (mth 243).2.1 5 = .ok (.ineg, 1) := by decide +kernel
theorem d_243_6 : decode (mth 243).2.1 6 = .ok (.goto 4, 3) := by decide +kernel
theorem d_243_9 : decode (mth 243).2.1 9 = .ok (.iload_n 0, 1) := by decide +kernel
theorem d_243_10 : decode (mth 243).2.1 10 = .ok (.ireturn, 1) := by decide +kernel
/-! 244 PlayedTruthModel.billing(I)I -/
theorem d_244_0 : decode (mth 244).2.1 0 = .ok (.iload_n 1, 1) := by decide +kernel
theorem d_244_1 : decode (mth 244).2.1 1 = .ok (.i2l, 1) := by decide +kernel
theorem d_244_2 : decode (mth 244).2.1 2 = .ok (.lconst 0, 1) := by decide +kernel
theorem d_244_3 : decode (mth 244).2.1 3 = .ok (.ldc2_w 315, 3) := by decide +kernel
theorem d_244_6 : decode (mth 244).2.1 6 = .ok (.invokestatic 58, 3) := by decide +kernel
theorem d_244_9 : decode (mth 244).2.1 9 = .ok (.ifCond .ne 5, 3) := by decide +kernel
theorem d_244_12 : decode (mth 244).2.1 12 = .ok (.iconst (-1), 1) := by decide +kernel
theorem d_244_13 : decode (mth 244).2.1 13 = .ok (.ireturn, 1) := by decide +kernel
theorem d_244_14 : decode (mth 244).2.1 14 = .ok (.bipush (-3), 2) := by decide +kernel
theorem d_244_16 : decode (mth 244).2.1 16 = .ok (.istore_n 2, 1) := by decide +kernel
theorem d_244_17 : decode (mth 244).2.1 17 = .ok (.iconst 0, 1) := by decide +kernel
theorem d_244_18 : decode (mth 244).2.1 18 = .ok (.istore_n 3, 1) := by decide +kernel
theorem d_244_19 : decode (mth 244).2.1 19 = .ok (.iload_n 3, 1) := by decide +kernel
theorem d_244_20 : decode (mth 244).2.1 20 = .ok (.iconst 1, 1) := by decide +kernel
theorem d_244_21 : decode (mth 244).2.1 21 = .ok (.aload_n 0, 1) := by decide +kernel
theorem d_244_22 : decode (mth 244).2.1 22 = .ok (.getfield 7, 3) := by decide +kernel
theorem d_244_25 : decode (mth 244).2.1 25 = .ok (.iconst 0, 1) := by decide +kernel
theorem d_244_26 : decode (mth 244).2.1 26 = .ok (.iaload, 1) := by decide +kernel
theorem d_244_27 : decode (mth 244).2.1 27 = .ok (.ishl, 1) := by decide +kernel
theorem d_244_28 : decode (mth 244).2.1 28 = .ok (.if_icmp .ge 77, 3) := by decide +kernel
theorem d_244_31 : decode (mth 244).2.1 31 = .ok (.iconst 0, 1) := by decide +kernel
theorem d_244_32 : decode (mth 244).2.1 32 = .ok (.istore 4, 2) := by decide +kernel
theorem d_244_34 : decode (mth 244).2.1 34 = .ok (.iconst 0, 1) := by decide +kernel
theorem d_244_35 : decode (mth 244).2.1 35 = .ok (.istore 5, 2) := by decide +kernel
theorem d_244_37 : decode (mth 244).2.1 37 = .ok (.iload 5, 2) := by decide +kernel
theorem d_244_39 : decode (mth 244).2.1 39 = .ok (.aload_n 0, 1) := by decide +kernel
theorem d_244_40 : decode (mth 244).2.1 40 = .ok (.getfield 7, 3) := by decide +kernel
theorem d_244_43 : decode (mth 244).2.1 43 = .ok (.iconst 0, 1) := by decide +kernel
theorem d_244_44 : decode (mth 244).2.1 44 = .ok (.iaload, 1) := by decide +kernel
theorem d_244_45 : decode (mth 244).2.1 45 = .ok (.if_icmp .ge 27, 3) := by decide +kernel
theorem d_244_48 : decode (mth 244).2.1 48 = .ok (.iload 4, 2) := by decide +kernel
theorem d_244_50 : decode (mth 244).2.1 50 = .ok (.iload_n 3, 1) := by decide +kernel
theorem d_244_51 : decode (mth 244).2.1 51 = .ok (.iload 5, 2) := by decide +kernel
theorem d_244_53 : decode (mth 244).2.1 53 = .ok (.ishr, 1) := by decide +kernel
theorem d_244_54 : decode (mth 244).2.1 54 = .ok (.iconst 1, 1) := by decide +kernel
theorem d_244_55 : decode (mth 244).2.1 55 = .ok (.iand, 1) := by decide +kernel
theorem d_244_56 : decode (mth 244).2.1 56 = .ok (.aload_n 0, 1) := by decide +kernel
theorem d_244_57 : decode (mth 244).2.1 57 = .ok (.iload 5, 2) := by decide +kernel
theorem d_244_59 : decode (mth 244).2.1 59 = .ok (.invokevirtual 121, 3) := by decide +kernel
theorem d_244_62 : decode (mth 244).2.1 62 = .ok (.imul, 1) := by decide +kernel
theorem d_244_63 : decode (mth 244).2.1 63 = .ok (.iadd, 1) := by decide +kernel
theorem d_244_64 : decode (mth 244).2.1 64 = .ok (.istore 4, 2) := by decide +kernel
theorem d_244_66 : decode (mth 244).2.1 66 = .ok (.iinc 5 1, 3) := by decide +kernel
theorem d_244_69 : decode (mth 244).2.1 69 = .ok (.goto (-32), 3) := by decide +kernel
theorem d_244_72 : decode (mth 244).2.1 72 = .ok (.iload 4, 2) := by decide +kernel
theorem d_244_74 : decode (mth 244).2.1 74 = .ok (.iload_n 1, 1) := by decide +kernel
theorem d_244_75 : decode (mth 244).2.1 75 = .ok (.if_icmp .lt 22, 3) := by decide +kernel
theorem d_244_78 : decode (mth 244).2.1 78 = .ok (.iload_n 2, 1) := by decide +kernel
theorem d_244_79 : decode (mth 244).2.1 79 = .ok (.ifCond .lt 14, 3) := by decide +kernel
theorem d_244_82 : decode (mth 244).2.1 82 = .ok (.iload_n 3, 1) := by decide +kernel
theorem d_244_83 : decode (mth 244).2.1 83 = .ok (.invokestatic 317, 3) := by decide +kernel
theorem d_244_86 : decode (mth 244).2.1 86 = .ok (.iload_n 2, 1) := by decide +kernel
theorem d_244_87 : decode (mth 244).2.1 87 = .ok (.invokestatic 317, 3) := by decide +kernel
theorem d_244_90 : decode (mth 244).2.1 90 = .ok (.if_icmp .ge 7, 3) := by decide +kernel
theorem d_244_93 : decode (mth 244).2.1 93 = .ok (.iload_n 3, 1) := by decide +kernel
theorem d_244_94 : decode (mth 244).2.1 94 = .ok (.goto 4, 3) := by decide +kernel
theorem d_244_97 : decode (mth 244).2.1 97 = .ok (.iload_n 2, 1) := by decide +kernel
theorem d_244_98 : decode (mth 244).2.1 98 = .ok (.istore_n 2, 1) := by decide +kernel
theorem d_244_99 : decode (mth 244).2.1 99 = .ok (.iinc 3 1, 3) := by decide +kernel
theorem d_244_102 : decode (mth 244).2.1 102 = .ok (.goto (-83), 3) := by decide +kernel
theorem d_244_105 : decode (mth 244).2.1 105 = .ok (.iload_n 2, 1) := by decide +kernel
theorem d_244_106 : decode (mth 244).2.1 106 = .ok (.ireturn, 1) := by decide +kernel
/-! 245 PlayedTruthModel.ones(I)I -/
theorem d_245_0 : decode (mth 245).2.1 0 = .ok (.iconst 0, 1) := by decide +kernel
theorem d_245_1 : decode (mth 245).2.1 1 = .ok (.istore_n 1, 1) := by decide +kernel
theorem d_245_2 : decode (mth 245).2.1 2 = .ok (.iconst 0, 1) := by decide +kernel
theorem d_245_3 : decode (mth 245).2.1 3 = .ok (.istore_n 2, 1) := by decide +kernel
theorem d_245_4 : decode (mth 245).2.1 4 = .ok (.iload_n 2, 1) := by decide +kernel
theorem d_245_5 : decode (mth 245).2.1 5 = .ok (.bipush 6, 2) := by decide +kernel
theorem d_245_7 : decode (mth 245).2.1 7 = .ok (.if_icmp .ge 17, 3) := by decide +kernel
theorem d_245_10 : decode (mth 245).2.1 10 = .ok (.iload_n 1, 1) := by decide +kernel
theorem d_245_11 : decode (mth 245).2.1 11 = .ok (.iload_n 0, 1) := by decide +kernel
theorem d_245_12 : decode (mth 245).2.1 12 = .ok (.iload_n 2, 1) := by decide +kernel
theorem d_245_13 : decode (mth 245).2.1 13 = .ok (.ishr, 1) := by decide +kernel
theorem d_245_14 : decode (mth 245).2.1 14 = .ok (.iconst 1, 1) := by decide +kernel
theorem d_245_15 : decode (mth 245).2.1 15 = .ok (.iand, 1) := by decide +kernel
theorem d_245_16 : decode (mth 245).2.1 16 = .ok (.iadd, 1) := by decide +kernel
theorem d_245_17 : decode (mth 245).2.1 17 = .ok (.istore_n 1, 1) := by decide +kernel
theorem d_245_18 : decode (mth 245).2.1 18 = .ok (.iinc 2 1, 3) := by decide +kernel
theorem d_245_21 : decode (mth 245).2.1 21 = .ok (.goto (-17), 3) := by decide +kernel
theorem d_245_24 : decode (mth 245).2.1 24 = .ok (.iload_n 1, 1) := by decide +kernel
theorem d_245_25 : decode (mth 245).2.1 25 = .ok (.ireturn, 1) := by decide +kernel
/-! 246 PlayedTruthModel.best(I)I -/
theorem d_246_0 : decode (mth 246).2.1 0 = .ok (.iload_n 1, 1) := by decide +kernel
theorem d_246_1 : decode (mth 246).2.1 1 = .ok (.invokestatic 341, 3) := by decide +kernel
theorem d_246_4 : decode (mth 246).2.1 4 = .ok (.ifCond .ne 5, 3) := by decide +kernel
theorem d_246_7 : decode (mth 246).2.1 7 = .ok (.iconst (-1), 1) := by decide +kernel
theorem d_246_8 : decode (mth 246).2.1 8 = .ok (.ireturn, 1) := by decide +kernel
theorem d_246_9 : decode (mth 246).2.1 9 = .ok (.aload_n 0, 1) := by decide +kernel
theorem d_246_10 : decode (mth 246).2.1 10 = .ok (.iload_n 1, 1) := by decide +kernel
theorem d_246_11 : decode (mth 246).2.1 11 = .ok (.invokevirtual 344, 3) := by decide +kernel
theorem d_246_14 : decode (mth 246).2.1 14 = .ok (.aload_n 0, 1) := by decide +kernel
theorem d_246_15 : decode (mth 246).2.1 15 = .ok (.getfield 328, 3) := by decide +kernel
theorem d_246_18 : decode (mth 246).2.1 18 = .ok (.ireturn, 1) := by decide +kernel
/-! 247 PlayedTruthModel.isPlan(I)Z -/
theorem d_247_0 : decode (mth 247).2.1 0 = .ok (.iload_n 0, 1) := by decide +kernel
theorem d_247_1 : decode (mth 247).2.1 1 = .ok (.i2l, 1) := by decide +kernel
theorem d_247_2 : decode (mth 247).2.1 2 = .ok (.lconst 0, 1) := by decide +kernel
theorem d_247_3 : decode (mth 247).2.1 3 = .ok (.ldc2_w 320, 3) := by decide +kernel
theorem d_247_6 : decode (mth 247).2.1 6 = .ok (.invokestatic 58, 3) := by decide +kernel
theorem d_247_9 : decode (mth 247).2.1 9 = .ok (.ireturn, 1) := by decide +kernel
/-! 248 PlayedTruthModel.findBest(I)V -/
theorem d_248_0 : decode (mth 248).2.1 0 = .ok (.aload_n 0, 1) := by decide +kernel
theorem d_248_1 : decode (mth 248).2.1 1 = .ok (.iload_n 1, 1) := by decide +kernel
theorem d_248_2 : decode (mth 248).2.1 2 = .ok (.invokevirtual 322, 3) := by decide +kernel
theorem d_248_5 : decode (mth 248).2.1 5 = .ok (.istore_n 2, 1) := by decide +kernel
theorem d_248_6 : decode (mth 248).2.1 6 = .ok (.aload_n 0, 1) := by decide +kernel
theorem d_248_7 : decode (mth 248).2.1 7 = .ok (.iload_n 1, 1) := by decide +kernel
theorem d_248_8 : decode (mth 248).2.1 8 = .ok (.invokevirtual 325, 3) := by decide +kernel
theorem d_248_11 : decode (mth 248).2.1 11 = .ok (.istore_n 3, 1) := by decide +kernel
theorem d_248_12 : decode (mth 248).2.1 12 = .ok (.aload_n 0, 1) := by decide +kernel
theorem d_248_13 : decode (mth 248).2.1 13 = .ok (.iconst (-1), 1) := by decide +kernel
theorem d_248_14 : decode (mth 248).2.1 14 = .ok (.putfield 328, 3) := by decide +kernel
theorem d_248_17 : decode (mth 248).2.1 17 = .ok (.aload_n 0, 1) := by decide +kernel
theorem d_248_18 : decode (mth 248).2.1 18 = .ok (.invokevirtual 288, 3) := by decide +kernel
theorem d_248_21 : decode (mth 248).2.1 21 = .ok (.iconst 0, 1) := by decide +kernel
theorem d_248_22 : decode (mth 248).2.1 22 = .ok (.istore 4, 2) := by decide +kernel
theorem d_248_24 : decode (mth 248).2.1 24 = .ok (.iload 4, 2) := by decide +kernel
theorem d_248_26 : decode (mth 248).2.1 26 = .ok (.iload_n 3, 1) := by decide +kernel
theorem d_248_27 : decode (mth 248).2.1 27 = .ok (.if_icmp .ge 137, 3) := by decide +kernel
theorem d_248_30 : decode (mth 248).2.1 30 = .ok (.aload_n 0, 1) := by decide +kernel
theorem d_248_31 : decode (mth 248).2.1 31 = .ok (.iload 4, 2) := by decide +kernel
theorem d_248_33 : decode (mth 248).2.1 33 = .ok (.iload_n 2, 1) := by decide +kernel
theorem d_248_34 : decode (mth 248).2.1 34 = .ok (.invokevirtual 331, 3) := by decide +kernel
theorem d_248_37 : decode (mth 248).2.1 37 = .ok (.iconst 0, 1) := by decide +kernel
theorem d_248_38 : decode (mth 248).2.1 38 = .ok (.istore 5, 2) := by decide +kernel
theorem d_248_40 : decode (mth 248).2.1 40 = .ok (.iconst 0, 1) := by decide +kernel
theorem d_248_41 : decode (mth 248).2.1 41 = .ok (.istore 6, 2) := by decide +kernel
theorem d_248_43 : decode (mth 248).2.1 43 = .ok (.iload 6, 2) := by decide +kernel
theorem d_248_45 : decode (mth 248).2.1 45 = .ok (.iload_n 2, 1) := by decide +kernel
theorem d_248_46 : decode (mth 248).2.1 46 = .ok (.if_icmp .ge 25, 3) := by decide +kernel
theorem d_248_49 : decode (mth 248).2.1 49 = .ok (.iload 5, 2) := by decide +kernel
theorem d_248_51 : decode (mth 248).2.1 51 = .ok (.aload_n 0, 1) := by decide +kernel
theorem d_248_52 : decode (mth 248).2.1 52 = .ok (.aload_n 0, 1) := by decide +kernel
theorem d_248_53 : decode (mth 248).2.1 53 = .ok (.getfield 31, 3) := by decide +kernel
theorem d_248_56 : decode (mth 248).2.1 56 = .ok (.iload 6, 2) := by decide +kernel
theorem d_248_58 : decode (mth 248).2.1 58 = .ok (.iaload, 1) := by decide +kernel
theorem d_248_59 : decode (mth 248).2.1 59 = .ok (.invokevirtual 135, 3) := by decide +kernel
theorem d_248_62 : decode (mth 248).2.1 62 = .ok (.iadd, 1) := by decide +kernel
theorem d_248_63 : decode (mth 248).2.1 63 = .ok (.istore 5, 2) := by decide +kernel
theorem d_248_65 : decode (mth 248).2.1 65 = .ok (.iinc 6 1, 3) := by decide +kernel
theorem d_248_68 : decode (mth 248).2.1 68 = .ok (.goto (-25), 3) := by decide +kernel
theorem d_248_71 : decode (mth 248).2.1 71 = .ok (.aload_n 0, 1) := by decide +kernel
theorem d_248_72 : decode (mth 248).2.1 72 = .ok (.invokevirtual 66, 3) := by decide +kernel
theorem d_248_75 : decode (mth 248).2.1 75 = .ok (.aload_n 0, 1) := by decide +kernel
theorem d_248_76 : decode (mth 248).2.1 76 = .ok (.iload 5, 2) := by decide +kernel
theorem d_248_78 : decode (mth 248).2.1 78 = .ok (.aload_n 0, 1) := by decide +kernel
theorem d_248_79 : decode (mth 248).2.1 79 = .ok (.getfield 328, 3) := by decide +kernel
theorem d_248_82 : decode (mth 248).2.1 82 = .ok (.if_icmp .le 8, 3) := by decide +kernel
theorem d_248_85 : decode (mth 248).2.1 85 = .ok (.iload 4, 2) := by decide +kernel
theorem d_248_87 : decode (mth 248).2.1 87 = .ok (.goto 7, 3) := by decide +kernel
theorem d_248_90 : decode (mth 248).2.1 90 = .ok (.aload_n 0, 1) := by decide +kernel
theorem d_248_91 : decode (mth 248).2.1 91 = .ok (.getfield 335, 3) := by decide +kernel
theorem d_248_94 : decode (mth 248).2.1 94 = .ok (.putfield 335, 3) := by decide +kernel
theorem d_248_97 : decode (mth 248).2.1 97 = .ok (.aload_n 0, 1) := by decide +kernel
theorem d_248_98 : decode (mth 248).2.1 98 = .ok (.iload 5, 2) := by decide +kernel
theorem d_248_100 : decode (mth 248).2.1 100 = .ok (.aload_n 0, 1) := by decide +kernel
theorem d_248_101 : decode (mth 248).2.1 101 = .ok (.getfield 328, 3) := by decide +kernel
theorem d_248_104 : decode (mth 248).2.1 104 = .ok (.if_icmp .le 7, 3) := by decide +kernel
theorem d_248_107 : decode (mth 248).2.1 107 = .ok (.iconst 1, 1) := by decide +kernel
theorem d_248_108 : decode (mth 248).2.1 108 = .ok (.goto 25, 3) := by decide +kernel
theorem d_248_111 : decode (mth 248).2.1 111 = .ok (.iload 5, 2) := by decide +kernel
theorem d_248_113 : decode (mth 248).2.1 113 = .ok (.aload_n 0, 1) := by decide +kernel
theorem d_248_114 : decode (mth 248).2.1 114 = .ok (.getfield 328, 3) := by decide +kernel
theorem d_248_117 : decode (mth 248).2.1 117 = .ok (.if_icmp .ne 12, 3) := by decide +kernel
theorem d_248_120 : decode (mth 248).2.1 120 = .ok (.aload_n 0, 1) := by decide +kernel
theorem d_248_121 : decode (mth 248).2.1 121 = .ok (.getfield 338, 3) := by decide +kernel
theorem d_248_124 : decode (mth 248).2.1 124 = .ok (.iconst 1, 1) := by decide +kernel
theorem d_248_125 : decode (mth 248).2.1 125 = .ok (.iadd, 1) := by decide +kernel
theorem d_248_126 : decode (mth 248).2.1 126 = .ok (.goto 7, 3) := by decide +kernel
theorem d_248_129 : decode (mth 248).2.1 129 = .ok (.aload_n 0, 1) := by decide +kernel
theorem d_248_130 : decode (mth 248).2.1 130 = .ok (.getfield 338, 3) := by decide +kernel
theorem d_248_133 : decode (mth 248).2.1 133 = .ok (.putfield 338, 3) := by decide +kernel
theorem d_248_136 : decode (mth 248).2.1 136 = .ok (.aload_n 0, 1) := by decide +kernel
theorem d_248_137 : decode (mth 248).2.1 137 = .ok (.iload 5, 2) := by decide +kernel
theorem d_248_139 : decode (mth 248).2.1 139 = .ok (.aload_n 0, 1) := by decide +kernel
theorem d_248_140 : decode (mth 248).2.1 140 = .ok (.getfield 328, 3) := by decide +kernel
theorem d_248_143 : decode (mth 248).2.1 143 = .ok (.if_icmp .le 8, 3) := by decide +kernel
theorem d_248_146 : decode (mth 248).2.1 146 = .ok (.iload 5, 2) := by decide +kernel
theorem d_248_148 : decode (mth 248).2.1 148 = .ok (.goto 7, 3) := by decide +kernel
theorem d_248_151 : decode (mth 248).2.1 151 = .ok (.aload_n 0, 1) := by decide +kernel
theorem d_248_152 : decode (mth 248).2.1 152 = .ok (.getfield 328, 3) := by decide +kernel
theorem d_248_155 : decode (mth 248).2.1 155 = .ok (.putfield 328, 3) := by decide +kernel
theorem d_248_158 : decode (mth 248).2.1 158 = .ok (.iinc 4 1, 3) := by decide +kernel
theorem d_248_161 : decode (mth 248).2.1 161 = .ok (.goto (-137), 3) := by decide +kernel
theorem d_248_164 : decode (mth 248).2.1 164 = .ok (.aload_n 0, 1) := by decide +kernel
theorem d_248_165 : decode (mth 248).2.1 165 = .ok (.invokevirtual 294, 3) := by decide +kernel
theorem d_248_168 : decode (mth 248).2.1 168 = .ok (.return_, 1) := by decide +kernel
/-! 249 PlayedTruthModel.longOf(I)I -/
theorem d_249_0 : decode (mth 249).2.1 0 = .ok (.iload_n 1, 1) := by decide +kernel
theorem d_249_1 : decode (mth 249).2.1 1 = .ok (.iconst 0, 1) := by decide +kernel
theorem d_249_2 : decode (mth 249).2.1 2 = .ok (.aload_n 0, 1) := by decide +kernel
theorem d_249_3 : decode (mth 249).2.1 3 = .ok (.getfield 7, 3) := by decide +kernel
theorem d_249_6 : decode (mth 249).2.1 6 = .ok (.iconst 2, 1) := by decide +kernel
theorem d_249_7 : decode (mth 249).2.1 7 = .ok (.iaload, 1) := by decide +kernel
theorem d_249_8 : decode (mth 249).2.1 8 = .ok (.aload_n 0, 1) := by decide +kernel
theorem d_249_9 : decode (mth 249).2.1 9 = .ok (.getfield 7, 3) := by decide +kernel
theorem d_249_12 : decode (mth 249).2.1 12 = .ok (.iconst 1, 1) := by decide +kernel
theorem d_249_13 : decode (mth 249).2.1 13 = .ok (.iaload, 1) := by decide +kernel
theorem d_249_14 : decode (mth 249).2.1 14 = .ok (.isub, 1) := by decide +kernel
theorem d_249_15 : decode (mth 249).2.1 15 = .ok (.iconst 0, 1) := by decide +kernel
theorem d_249_16 : decode (mth 249).2.1 16 = .ok (.bipush 16, 2) := by decide +kernel
theorem d_249_18 : decode (mth 249).2.1 18 = .ok (.invokestatic 73, 3) := by decide +kernel
theorem d_249_21 : decode (mth 249).2.1 21 = .ok (.invokestatic 73, 3) := by decide +kernel
theorem d_249_24 : decode (mth 249).2.1 24 = .ok (.ireturn, 1) := by decide +kernel
/-! 250 PlayedTruthModel.plansOf(I)I -/
theorem d_250_0 : decode (mth 250).2.1 0 = .ok (.iconst 1, 1) := by decide +kernel
theorem d_250_1 : decode (mth 250).2.1 1 = .ok (.istore_n 2, 1) := by decide +kernel
theorem d_250_2 : decode (mth 250).2.1 2 = .ok (.iconst 0, 1) := by decide +kernel
theorem d_250_3 : decode (mth 250).2.1 3 = .ok (.istore_n 3, 1) := by decide +kernel
theorem d_250_4 : decode (mth 250).2.1 4 = .ok (.iload_n 3, 1) := by decide +kernel
theorem d_250_5 : decode (mth 250).2.1 5 = .ok (.aload_n 0, 1) := by decide +kernel
theorem d_250_6 : decode (mth 250).2.1 6 = .ok (.iload_n 1, 1) := by decide +kernel
theorem d_250_7 : decode (mth 250).2.1 7 = .ok (.invokevirtual 322, 3) := by decide +kernel
theorem d_250_10 : decode (mth 250).2.1 10 = .ok (.if_icmp .ge 20, 3) := by decide +kernel
theorem d_250_13 : decode (mth 250).2.1 13 = .ok (.iload_n 2, 1) := by decide +kernel
theorem d_250_14 : decode (mth 250).2.1 14 = .ok (.aload_n 0, 1) := by decide +kernel
theorem d_250_15 : decode (mth 250).2.1 15 = .ok (.getfield 7, 3) := by decide +kernel
theorem d_250_18 : decode (mth 250).2.1 18 = .ok (.iconst 0, 1) := by decide +kernel
theorem d_250_19 : decode (mth 250).2.1 19 = .ok (.iaload, 1) := by decide +kernel
theorem d_250_20 : decode (mth 250).2.1 20 = .ok (.iconst 1, 1) := by decide +kernel
theorem d_250_21 : decode (mth 250).2.1 21 = .ok (.iadd, 1) := by decide +kernel
theorem d_250_22 : decode (mth 250).2.1 22 = .ok (.imul, 1) := by decide +kernel
theorem d_250_23 : decode (mth 250).2.1 23 = .ok (.istore_n 2, 1) := by decide +kernel
theorem d_250_24 : decode (mth 250).2.1 24 = .ok (.iinc 3 1, 3) := by decide +kernel
theorem d_250_27 : decode (mth 250).2.1 27 = .ok (.goto (-23), 3) := by decide +kernel
theorem d_250_30 : decode (mth 250).2.1 30 = .ok (.iload_n 2, 1) := by decide +kernel
theorem d_250_31 : decode (mth 250).2.1 31 = .ok (.ireturn, 1) := by decide +kernel
/-! 251 PlayedTruthModel.actsOf(II)V -/
theorem d_251_0 : decode (mth 251).2.1 0 = .ok (.iload_n 1, 1) := by decide +kernel
theorem d_251_1 : decode (mth 251).2.1 1 = .ok (.istore_n 3, 1) := by decide +kernel
theorem d_251_2 : decode (mth 251).2.1 2 = .ok (.iload_n 2, 1) := by decide +kernel
theorem d_251_3 : decode (mth 251).2.1 3 = .ok (.iconst 1, 1) := by decide +kernel
theorem d_251_4 : decode (mth 251).2.1 4 = .ok (.isub, 1) := by decide +kernel
theorem d_251_5 : decode (mth 251).2.1 5 = .ok (.istore 4, 2) := by decide +kernel
theorem d_251_7 : decode (mth 251).2.1 7 = .ok (.iload 4, 2) := by decide +kernel
theorem d_251_9 : decode (mth 251).2.1 9 = .ok (.ifCond .lt 37, 3) := by decide +kernel
theorem d_251_12 : decode (mth 251).2.1 12 = .ok (.aload_n 0, 1) := by decide +kernel
theorem d_251_13 : decode (mth 251).2.1 13 = .ok (.getfield 31, 3) := by decide +kernel
theorem d_251_16 : decode (mth 251).2.1 16 = .ok (.iload 4, 2) := by decide +kernel
theorem d_251_18 : decode (mth 251).2.1 18 = .ok (.iload_n 3, 1) := by decide +kernel
theorem d_251_19 : decode (mth 251).2.1 19 = .ok (.aload_n 0, 1) := by decide +kernel
theorem d_251_20 : decode (mth 251).2.1 20 = .ok (.getfield 7, 3) := by decide +kernel
theorem d_251_23 : decode (mth 251).2.1 23 = .ok (.iconst 0, 1) := by decide +kernel
theorem d_251_24 : decode (mth 251).2.1 24 = .ok (.iaload, 1) := by decide +kernel
theorem d_251_25 : decode (mth 251).2.1 25 = .ok (.iconst 1, 1) := by decide +kernel
theorem d_251_26 : decode (mth 251).2.1 26 = .ok (.iadd, 1) := by decide +kernel
theorem d_251_27 : decode (mth 251).2.1 27 = .ok (.irem, 1) := by decide +kernel
theorem d_251_28 : decode (mth 251).2.1 28 = .ok (.iastore, 1) := by decide +kernel
theorem d_251_29 : decode (mth 251).2.1 29 = .ok (.iload_n 3, 1) := by decide +kernel
theorem d_251_30 : decode (mth 251).2.1 30 = .ok (.aload_n 0, 1) := by decide +kernel
theorem d_251_31 : decode (mth 251).2.1 31 = .ok (.getfield 7, 3) := by decide +kernel
theorem d_251_34 : decode (mth 251).2.1 34 = .ok (.iconst 0, 1) := by decide +kernel
theorem d_251_35 : decode (mth 251).2.1 35 = .ok (.iaload, 1) := by decide +kernel
theorem d_251_36 : decode (mth 251).2.1 36 = .ok (.iconst 1, 1) := by decide +kernel
theorem d_251_37 : decode (mth 251).2.1 37 = .ok (.iadd, 1) := by decide +kernel
theorem d_251_38 : decode (mth 251).2.1 38 = .ok (.idiv, 1) := by decide +kernel
theorem d_251_39 : decode (mth 251).2.1 39 = .ok (.istore_n 3, 1) := by decide +kernel
theorem d_251_40 : decode (mth 251).2.1 40 = .ok (.iinc 4 (-1), 3) := by decide +kernel
theorem d_251_43 : decode (mth 251).2.1 43 = .ok (.goto (-36), 3) := by decide +kernel
theorem d_251_46 : decode (mth 251).2.1 46 = .ok (.return_, 1) := by decide +kernel
/-! 252 PlayedTruthModel.ith(II)I -/
theorem d_252_0 : decode (mth 252).2.1 0 = .ok (.iload_n 1, 1) := by decide +kernel
theorem d_252_1 : decode (mth 252).2.1 1 = .ok (.invokestatic 341, 3) := by decide +kernel
theorem d_252_4 : decode (mth 252).2.1 4 = .ok (.ifCond .eq 15, 3) := by decide +kernel
theorem d_252_7 : decode (mth 252).2.1 7 = .ok (.iload_n 2, 1) := by decide +kernel
theorem d_252_8 : decode (mth 252).2.1 8 = .ok (.i2l, 1) := by decide +kernel
theorem d_252_9 : decode (mth 252).2.1 9 = .ok (.lconst 0, 1) := by decide +kernel
theorem d_252_10 : decode (mth 252).2.1 10 = .ok (.ldc2_w 347, 3) := by decide +kernel
theorem d_252_13 : decode (mth 252).2.1 13 = .ok (.invokestatic 58, 3) := by decide +kernel
theorem d_252_16 : decode (mth 252).2.1 16 = .ok (.ifCond .ne 5, 3) := by decide +kernel
theorem d_252_19 : decode (mth 252).2.1 19 = .ok (.iconst (-1), 1) := by decide +kernel
theorem d_252_20 : decode (mth 252).2.1 20 = .ok (.ireturn, 1) := by decide +kernel
theorem d_252_21 : decode (mth 252).2.1 21 = .ok (.iload_n 2, 1) := by decide +kernel
theorem d_252_22 : decode (mth 252).2.1 22 = .ok (.aload_n 0, 1) := by decide +kernel
theorem d_252_23 : decode (mth 252).2.1 23 = .ok (.iload_n 1, 1) := by decide +kernel
theorem d_252_24 : decode (mth 252).2.1 24 = .ok (.invokevirtual 322, 3) := by decide +kernel
theorem d_252_27 : decode (mth 252).2.1 27 = .ok (.if_icmp .lt 6, 3) := by decide +kernel
theorem d_252_30 : decode (mth 252).2.1 30 = .ok (.bipush (-3), 2) := by decide +kernel
theorem d_252_32 : decode (mth 252).2.1 32 = .ok (.ireturn, 1) := by decide +kernel
theorem d_252_33 : decode (mth 252).2.1 33 = .ok (.aload_n 0, 1) := by decide +kernel
theorem d_252_34 : decode (mth 252).2.1 34 = .ok (.iload_n 1, 1) := by decide +kernel
theorem d_252_35 : decode (mth 252).2.1 35 = .ok (.invokevirtual 344, 3) := by decide +kernel
theorem d_252_38 : decode (mth 252).2.1 38 = .ok (.aload_n 0, 1) := by decide +kernel
theorem d_252_39 : decode (mth 252).2.1 39 = .ok (.aload_n 0, 1) := by decide +kernel
theorem d_252_40 : decode (mth 252).2.1 40 = .ok (.getfield 335, 3) := by decide +kernel
theorem d_252_43 : decode (mth 252).2.1 43 = .ok (.aload_n 0, 1) := by decide +kernel
theorem d_252_44 : decode (mth 252).2.1 44 = .ok (.iload_n 1, 1) := by decide +kernel
theorem d_252_45 : decode (mth 252).2.1 45 = .ok (.invokevirtual 322, 3) := by decide +kernel
theorem d_252_48 : decode (mth 252).2.1 48 = .ok (.invokevirtual 331, 3) := by decide +kernel
theorem d_252_51 : decode (mth 252).2.1 51 = .ok (.aload_n 0, 1) := by decide +kernel
theorem d_252_52 : decode (mth 252).2.1 52 = .ok (.getfield 31, 3) := by decide +kernel
theorem d_252_55 : decode (mth 252).2.1 55 = .ok (.iload_n 2, 1) := by decide +kernel
theorem d_252_56 : decode (mth 252).2.1 56 = .ok (.iaload, 1) := by decide +kernel
theorem d_252_57 : decode (mth 252).2.1 57 = .ok (.ireturn, 1) := by decide +kernel
/-! 253 PlayedTruthModel.ways(I)I -/
theorem d_253_0 : decode (mth 253).2.1 0 = .ok (.iload_n 1, 1) := by decide +kernel
theorem d_253_1 : decode (mth 253).2.1 1 = .ok (.invokestatic 341, 3) := by decide +kernel
theorem d_253_4 : decode (mth 253).2.1 4 = .ok (.ifCond .ne 5, 3) := by decide +kernel
theorem d_253_7 : decode (mth 253).2.1 7 = .ok (.iconst (-1), 1) := by decide +kernel
theorem d_253_8 : decode (mth 253).2.1 8 = .ok (.ireturn, 1) := by decide +kernel
theorem d_253_9 : decode (mth 253).2.1 9 = .ok (.aload_n 0, 1) := by decide +kernel
theorem d_253_10 : decode (mth 253).2.1 10 = .ok (.iload_n 1, 1) := by decide +kernel
theorem d_253_11 : decode (mth 253).2.1 11 = .ok (.invokevirtual 344, 3) := by decide +kernel
theorem d_253_14 : decode (mth 253).2.1 14 = .ok (.aload_n 0, 1) := by decide +kernel
theorem d_253_15 : decode (mth 253).2.1 15 = .ok (.getfield 338, 3) := by decide +kernel
theorem d_253_18 : decode (mth 253).2.1 18 = .ok (.ireturn, 1) := by decide +kernel
/-! 254 PlayedTruthModel.bill(II)I -/
theorem d_254_0 : decode (mth 254).2.1 0 = .ok (.iload_n 1, 1) := by decide +kernel
theorem d_254_1 : decode (mth 254).2.1 1 = .ok (.invokestatic 341, 3) := by decide +kernel
theorem d_254_4 : decode (mth 254).2.1 4 = .ok (.ifCond .eq 11, 3) := by decide +kernel
theorem d_254_7 : decode (mth 254).2.1 7 = .ok (.aload_n 0, 1) := by decide +kernel
theorem d_254_8 : decode (mth 254).2.1 8 = .ok (.iload_n 2, 1) := by decide +kernel
theorem d_254_9 : decode (mth 254).2.1 9 = .ok (.invokevirtual 355, 3) := by decide +kernel
theorem d_254_12 : decode (mth 254).2.1 12 = .ok (.ifCond .ne 5, 3) := by decide +kernel
theorem d_254_15 : decode (mth 254).2.1 15 = .ok (.iconst (-1), 1) := by decide +kernel
theorem d_254_16 : decode (mth 254).2.1 16 = .ok (.ireturn, 1) := by decide +kernel
theorem d_254_17 : decode (mth 254).2.1 17 = .ok (.aload_n 0, 1) := by decide +kernel
theorem d_254_18 : decode (mth 254).2.1 18 = .ok (.iload_n 1, 1) := by decide +kernel
theorem d_254_19 : decode (mth 254).2.1 19 = .ok (.iload_n 2, 1) := by decide +kernel
theorem d_254_20 : decode (mth 254).2.1 20 = .ok (.invokevirtual 358, 3) := by decide +kernel
theorem d_254_23 : decode (mth 254).2.1 23 = .ok (.aload_n 0, 1) := by decide +kernel
theorem d_254_24 : decode (mth 254).2.1 24 = .ok (.getfield 349, 3) := by decide +kernel
theorem d_254_27 : decode (mth 254).2.1 27 = .ok (.ireturn, 1) := by decide +kernel
/-! 255 PlayedTruthModel.areScenes(I)Z -/
theorem d_255_0 : decode (mth 255).2.1 0 = .ok (.iload_n 1, 1) := by decide +kernel
theorem d_255_1 : decode (mth 255).2.1 1 = .ok (.i2l, 1) := by decide +kernel
theorem d_255_2 : decode (mth 255).2.1 2 = .ok (.lconst 0, 1) := by decide +kernel
theorem d_255_3 : decode (mth 255).2.1 3 = .ok (.iconst 1, 1) := by decide +kernel
theorem d_255_4 : decode (mth 255).2.1 4 = .ok (.aload_n 0, 1) := by decide +kernel
theorem d_255_5 : decode (mth 255).2.1 5 = .ok (.getfield 7, 3) := by decide +kernel
theorem d_255_8 : decode (mth 255).2.1 8 = .ok (.iconst 0, 1) := by decide +kernel
theorem d_255_9 : decode (mth 255).2.1 9 = .ok (.iaload, 1) := by decide +kernel
theorem d_255_10 : decode (mth 255).2.1 10 = .ok (.ishl, 1) := by decide +kernel
theorem d_255_11 : decode (mth 255).2.1 11 = .ok (.iconst 1, 1) := by decide +kernel
theorem d_255_12 : decode (mth 255).2.1 12 = .ok (.isub, 1) := by decide +kernel
theorem d_255_13 : decode (mth 255).2.1 13 = .ok (.i2l, 1) := by decide +kernel
theorem d_255_14 : decode (mth 255).2.1 14 = .ok (.invokestatic 58, 3) := by decide +kernel
theorem d_255_17 : decode (mth 255).2.1 17 = .ok (.ireturn, 1) := by decide +kernel
/-! 256 PlayedTruthModel.findBills(II)V -/
theorem d_256_0 : decode (mth 256).2.1 0 = .ok (.aload_n 0, 1) := by decide +kernel
theorem d_256_1 : decode (mth 256).2.1 1 = .ok (.iload_n 1, 1) := by decide +kernel
theorem d_256_2 : decode (mth 256).2.1 2 = .ok (.invokevirtual 322, 3) := by decide +kernel
theorem d_256_5 : decode (mth 256).2.1 5 = .ok (.istore_n 3, 1) := by decide +kernel
theorem d_256_6 : decode (mth 256).2.1 6 = .ok (.aload_n 0, 1) := by decide +kernel
theorem d_256_7 : decode (mth 256).2.1 7 = .ok (.iload_n 1, 1) := by decide +kernel
theorem d_256_8 : decode (mth 256).2.1 8 = .ok (.invokevirtual 325, 3) := by decide +kernel
theorem d_256_11 : decode (mth 256).2.1 11 = .ok (.istore 4, 2) := by decide +kernel
theorem d_256_13 : decode (mth 256).2.1 13 = .ok (.aload_n 0, 1) := by decide +kernel
theorem d_256_14 : decode (mth 256).2.1 14 = .ok (.bipush (-3), 2) := by decide +kernel
theorem d_256_16 : decode (mth 256).2.1 16 = .ok (.putfield 349, 3) := by decide +kernel
theorem d_256_19 : decode (mth 256).2.1 19 = .ok (.aload_n 0, 1) := by decide +kernel
theorem d_256_20 : decode (mth 256).2.1 20 = .ok (.iconst 0, 1) := by decide +kernel
theorem d_256_21 : decode (mth 256).2.1 21 = .ok (.putfield 352, 3) := by decide +kernel
theorem d_256_24 : decode (mth 256).2.1 24 = .ok (.aload_n 0, 1) := by decide +kernel
theorem d_256_25 : decode (mth 256).2.1 25 = .ok (.invokevirtual 288, 3) := by decide +kernel
theorem d_256_28 : decode (mth 256).2.1 28 = .ok (.iconst 0, 1) := by decide +kernel
theorem d_256_29 : decode (mth 256).2.1 29 = .ok (.istore 5, 2) := by decide +kernel
theorem d_256_31 : decode (mth 256).2.1 31 = .ok (.iload 5, 2) := by decide +kernel
theorem d_256_33 : decode (mth 256).2.1 33 = .ok (.iload 4, 2) := by decide +kernel
theorem d_256_35 : decode (mth 256).2.1 35 = .ok (.if_icmp .ge 125, 3) := by decide +kernel
theorem d_256_38 : decode (mth 256).2.1 38 = .ok (.aload_n 0, 1) := by decide +kernel
theorem d_256_39 : decode (mth 256).2.1 39 = .ok (.iload 5, 2) := by decide +kernel
theorem d_256_41 : decode (mth 256).2.1 41 = .ok (.iload_n 3, 1) := by decide +kernel
theorem d_256_42 : decode (mth 256).2.1 42 = .ok (.invokevirtual 331, 3) := by decide +kernel
theorem d_256_45 : decode (mth 256).2.1 45 = .ok (.iconst 0, 1) := by decide +kernel
theorem d_256_46 : decode (mth 256).2.1 46 = .ok (.istore 6, 2) := by decide +kernel
theorem d_256_48 : decode (mth 256).2.1 48 = .ok (.iconst 0, 1) := by decide +kernel
theorem d_256_49 : decode (mth 256).2.1 49 = .ok (.istore 7, 2) := by decide +kernel
theorem d_256_51 : decode (mth 256).2.1 51 = .ok (.iload 7, 2) := by decide +kernel
theorem d_256_53 : decode (mth 256).2.1 53 = .ok (.iload_n 3, 1) := by decide +kernel
theorem d_256_54 : decode (mth 256).2.1 54 = .ok (.if_icmp .ge 41, 3) := by decide +kernel
theorem d_256_57 : decode (mth 256).2.1 57 = .ok (.iload 6, 2) := by decide +kernel
theorem d_256_59 : decode (mth 256).2.1 59 = .ok (.aload_n 0, 1) := by decide +kernel
theorem d_256_60 : decode (mth 256).2.1 60 = .ok (.getfield 31, 3) := by decide +kernel
theorem d_256_63 : decode (mth 256).2.1 63 = .ok (.iload 7, 2) := by decide +kernel
theorem d_256_65 : decode (mth 256).2.1 65 = .ok (.iaload, 1) := by decide +kernel
theorem d_256_66 : decode (mth 256).2.1 66 = .ok (.ifCond .le 7, 3) := by decide +kernel
theorem d_256_69 : decode (mth 256).2.1 69 = .ok (.iconst 1, 1) := by decide +kernel
theorem d_256_70 : decode (mth 256).2.1 70 = .ok (.goto 4, 3) := by decide +kernel
theorem d_256_73 : decode (mth 256).2.1 73 = .ok (.iconst 0, 1) := by decide +kernel
theorem d_256_74 : decode (mth 256).2.1 74 = .ok (.iadd, 1) := by decide +kernel
theorem d_256_75 : decode (mth 256).2.1 75 = .ok (.istore 6, 2) := by decide +kernel
theorem d_256_77 : decode (mth 256).2.1 77 = .ok (.aload_n 0, 1) := by decide +kernel
theorem d_256_78 : decode (mth 256).2.1 78 = .ok (.aload_n 0, 1) := by decide +kernel
theorem d_256_79 : decode (mth 256).2.1 79 = .ok (.getfield 31, 3) := by decide +kernel
theorem d_256_82 : decode (mth 256).2.1 82 = .ok (.iload 7, 2) := by decide +kernel
theorem d_256_84 : decode (mth 256).2.1 84 = .ok (.iaload, 1) := by decide +kernel
theorem d_256_85 : decode (mth 256).2.1 85 = .ok (.invokevirtual 135, 3) := by decide +kernel
theorem d_256_88 : decode (mth 256).2.1 88 = .ok (.pop, 1) := by decide +kernel
theorem d_256_89 : decode (mth 256).2.1 89 = .ok (.iinc 7 1, 3) := by decide +kernel
theorem d_256_92 : decode (mth 256).2.1 92 = .ok (.goto (-41), 3) := by decide +kernel
theorem d_256_95 : decode (mth 256).2.1 95 = .ok (.aload_n 0, 1) := by decide +kernel
theorem d_256_96 : decode (mth 256).2.1 96 = .ok (.invokevirtual 154, 3) := by decide +kernel
theorem d_256_99 : decode (mth 256).2.1 99 = .ok (.istore 7, 2) := by decide +kernel
theorem d_256_101 : decode (mth 256).2.1 101 = .ok (.aload_n 0, 1) := by decide +kernel
theorem d_256_102 : decode (mth 256).2.1 102 = .ok (.invokevirtual 66, 3) := by decide +kernel
theorem d_256_105 : decode (mth 256).2.1 105 = .ok (.aload_n 0, 1) := by decide +kernel
theorem d_256_106 : decode (mth 256).2.1 106 = .ok (.dup, 1) := by decide +kernel
theorem d_256_107 : decode (mth 256).2.1 107 = .ok (.getfield 352, 3) := by decide +kernel
theorem d_256_110 : decode (mth 256).2.1 110 = .ok (.iload 7, 2) := by decide +kernel
theorem d_256_112 : decode (mth 256).2.1 112 = .ok (.ior, 1) := by decide +kernel
theorem d_256_113 : decode (mth 256).2.1 113 = .ok (.putfield 352, 3) := by decide +kernel
theorem d_256_116 : decode (mth 256).2.1 116 = .ok (.aload_n 0, 1) := by decide +kernel
theorem d_256_117 : decode (mth 256).2.1 117 = .ok (.iload_n 2, 1) := by decide +kernel
theorem d_256_118 : decode (mth 256).2.1 118 = .ok (.iload 7, 2) := by decide +kernel
theorem d_256_120 : decode (mth 256).2.1 120 = .ok (.iconst (-1), 1) := by decide +kernel
theorem d_256_121 : decode (mth 256).2.1 121 = .ok (.ixor, 1) := by decide +kernel
theorem d_256_122 : decode (mth 256).2.1 122 = .ok (.iand, 1) := by decide +kernel
theorem d_256_123 : decode (mth 256).2.1 123 = .ok (.ifCond .ne 24, 3) := by decide +kernel
theorem d_256_126 : decode (mth 256).2.1 126 = .ok (.aload_n 0, 1) := by decide +kernel
theorem d_256_127 : decode (mth 256).2.1 127 = .ok (.getfield 349, 3) := by decide +kernel
theorem d_256_130 : decode (mth 256).2.1 130 = .ok (.ifCond .lt 12, 3) := by decide +kernel
theorem d_256_133 : decode (mth 256).2.1 133 = .ok (.iload 6, 2) := by decide +kernel
theorem d_256_135 : decode (mth 256).2.1 135 = .ok (.aload_n 0, 1) := by decide +kernel
theorem d_256_136 : decode (mth 256).2.1 136 = .ok (.getfield 349, 3) := by decide +kernel
theorem d_256_139 : decode (mth 256).2.1 139 = .ok (.if_icmp .ge 8, 3) := by decide +kernel
theorem d_256_142 : decode (mth 256).2.1 142 = .ok (.iload 6, 2) := by decide +kernel
theorem d_256_144 : decode (mth 256).2.1 144 = .ok (.goto 7, 3) := by decide +kernel
theorem d_256_147 : decode (mth 256).2.1 147 = .ok (.aload_n 0, 1) := by decide +kernel
theorem d_256_148 : decode (mth 256).2.1 148 = .ok (.getfield 349, 3) := by decide +kernel
theorem d_256_151 : decode (mth 256).2.1 151 = .ok (.putfield 349, 3) := by decide +kernel
theorem d_256_154 : decode (mth 256).2.1 154 = .ok (.iinc 5 1, 3) := by decide +kernel
theorem d_256_157 : decode (mth 256).2.1 157 = .ok (.goto (-126), 3) := by decide +kernel
theorem d_256_160 : decode (mth 256).2.1 160 = .ok (.aload_n 0, 1) := by decide +kernel
theorem d_256_161 : decode (mth 256).2.1 161 = .ok (.invokevirtual 294, 3) := by decide +kernel
theorem d_256_164 : decode (mth 256).2.1 164 = .ok (.return_, 1) := by decide +kernel
/-! 257 PlayedTruthModel.bars(II)I -/
theorem d_257_0 : decode (mth 257).2.1 0 = .ok (.iload_n 1, 1) := by decide +kernel
theorem d_257_1 : decode (mth 257).2.1 1 = .ok (.invokestatic 341, 3) := by decide +kernel
theorem d_257_4 : decode (mth 257).2.1 4 = .ok (.ifCond .eq 11, 3) := by decide +kernel
theorem d_257_7 : decode (mth 257).2.1 7 = .ok (.aload_n 0, 1) := by decide +kernel
theorem d_257_8 : decode (mth 257).2.1 8 = .ok (.iload_n 2, 1) := by decide +kernel
theorem d_257_9 : decode (mth 257).2.1 9 = .ok (.invokevirtual 355, 3) := by decide +kernel
theorem d_257_12 : decode (mth 257).2.1 12 = .ok (.ifCond .ne 5, 3) := by decide +kernel
theorem d_257_15 : decode (mth 257).2.1 15 = .ok (.iconst (-1), 1) := by decide +kernel
theorem d_257_16 : decode (mth 257).2.1 16 = .ok (.ireturn, 1) := by decide +kernel
theorem d_257_17 : decode (mth 257).2.1 17 = .ok (.aload_n 0, 1) := by decide +kernel
theorem d_257_18 : decode (mth 257).2.1 18 = .ok (.iload_n 1, 1) := by decide +kernel
theorem d_257_19 : decode (mth 257).2.1 19 = .ok (.iload_n 2, 1) := by decide +kernel
theorem d_257_20 : decode (mth 257).2.1 20 = .ok (.invokevirtual 358, 3) := by decide +kernel
theorem d_257_23 : decode (mth 257).2.1 23 = .ok (.iconst 0, 1) := by decide +kernel
theorem d_257_24 : decode (mth 257).2.1 24 = .ok (.istore_n 3, 1) := by decide +kernel
theorem d_257_25 : decode (mth 257).2.1 25 = .ok (.iload_n 3, 1) := by decide +kernel
theorem d_257_26 : decode (mth 257).2.1 26 = .ok (.aload_n 0, 1) := by decide +kernel
theorem d_257_27 : decode (mth 257).2.1 27 = .ok (.getfield 7, 3) := by decide +kernel
theorem d_257_30 : decode (mth 257).2.1 30 = .ok (.iconst 0, 1) := by decide +kernel
theorem d_257_31 : decode (mth 257).2.1 31 = .ok (.iaload, 1) := by decide +kernel
theorem d_257_32 : decode (mth 257).2.1 32 = .ok (.if_icmp .ge 31, 3) := by decide +kernel
theorem d_257_35 : decode (mth 257).2.1 35 = .ok (.iload_n 2, 1) := by decide +kernel
theorem d_257_36 : decode (mth 257).2.1 36 = .ok (.iload_n 3, 1) := by decide +kernel
theorem d_257_37 : decode (mth 257).2.1 37 = .ok (.ishr, 1) := by decide +kernel
theorem d_257_38 : decode (mth 257).2.1 38 = .ok (.iconst 1, 1) := by decide +kernel
theorem d_257_39 : decode (mth 257).2.1 39 = .ok (.iand, 1) := by decide +kernel
theorem d_257_40 : decode (mth 257).2.1 40 = .ok (.iconst 1, 1) := by decide +kernel
theorem d_257_41 : decode (mth 257).2.1 41 = .ok (.if_icmp .ne 16, 3) := by decide +kernel
theorem d_257_44 : decode (mth 257).2.1 44 = .ok (.aload_n 0, 1) := by decide +kernel
theorem d_257_45 : decode (mth 257).2.1 45 = .ok (.getfield 352, 3) := by decide +kernel
theorem d_257_48 : decode (mth 257).2.1 48 = .ok (.iload_n 3, 1) := by decide +kernel
theorem d_257_49 : decode (mth 257).2.1 49 = .ok (.ishr, 1) := by decide +kernel
theorem d_257_50 : decode (mth 257).2.1 50 = .ok (.iconst 1, 1) := by decide +kernel
theorem d_257_51 : decode (mth 257).2.1 51 = .ok (.iand, 1) := by decide +kernel
theorem d_257_52 : decode (mth 257).2.1 52 = .ok (.ifCond .ne 5, 3) := by decide +kernel
theorem d_257_55 : decode (mth 257).2.1 55 = .ok (.iload_n 3, 1) := by decide +kernel
theorem d_257_56 : decode (mth 257).2.1 56 = .ok (.ireturn, 1) := by decide +kernel
theorem d_257_57 : decode (mth 257).2.1 57 = .ok (.iinc 3 1, 3) := by decide +kernel
theorem d_257_60 : decode (mth 257).2.1 60 = .ok (.goto (-35), 3) := by decide +kernel
theorem d_257_63 : decode (mth 257).2.1 63 = .ok (.bipush (-3), 2) := by decide +kernel
theorem d_257_65 : decode (mth 257).2.1 65 = .ok (.ireturn, 1) := by decide +kernel
/-! 258 PlayedTruthModel.game(I)I -/
theorem d_258_0 : decode (mth 258).2.1 0 = .ok (.iload_n 1, 1) := by decide +kernel
theorem d_258_1 : decode (mth 258).2.1 1 = .ok (.i2l, 1) := by decide +kernel
theorem d_258_2 : decode (mth 258).2.1 2 = .ok (.lconst 1, 1) := by decide +kernel
theorem d_258_3 : decode (mth 258).2.1 3 = .ok (.ldc2_w 320, 3) := by decide +kernel
theorem d_258_6 : decode (mth 258).2.1 6 = .ok (.invokestatic 58, 3) := by decide +kernel
theorem d_258_9 : decode (mth 258).2.1 9 = .ok (.ifCond .eq 12, 3) := by decide +kernel
theorem d_258_12 : decode (mth 258).2.1 12 = .ok (.aload_n 0, 1) := by decide +kernel
theorem d_258_13 : decode (mth 258).2.1 13 = .ok (.iload_n 1, 1) := by decide +kernel
theorem d_258_14 : decode (mth 258).2.1 14 = .ok (.iconst 1, 1) := by decide +kernel
theorem d_258_15 : decode (mth 258).2.1 15 = .ok (.invokevirtual 362, 3) := by decide +kernel
theorem d_258_18 : decode (mth 258).2.1 18 = .ok (.goto 4, 3) := by decide +kernel
theorem d_258_21 : decode (mth 258).2.1 21 = .ok (.iconst (-1), 1) := by decide +kernel
theorem d_258_22 : decode (mth 258).2.1 22 = .ok (.ireturn, 1) := by decide +kernel
/-! 259 PlayedTruthModel.valueOf(IZ)I -/
theorem d_259_0 : decode (mth 259).2.1 0 = .ok (.iload_n 1, 1) := by decide +kernel
theorem d_259_1 : decode (mth 259).2.1 1 = .ok (.ifCond .eq 10, 3) := by decide +kernel
theorem d_259_4 : decode (mth 259).2.1 4 = .ok (.aload_n 0, 1) := by decide +kernel
theorem d_259_5 : decode (mth 259).2.1 5 = .ok (.invokevirtual 128, 3) := by decide +kernel
theorem d_259_8 : decode (mth 259).2.1 8 = .ok (.ifCond .eq 5, 3) := by decide +kernel
theorem d_259_11 : decode (mth 259).2.1 11 = .ok (.iconst 0, 1) := by decide +kernel
theorem d_259_12 : decode (mth 259).2.1 12 = .ok (.ireturn, 1) := by decide +kernel
theorem d_259_13 : decode (mth 259).2.1 13 = .ok (.iload_n 2, 1) := by decide +kernel
theorem d_259_14 : decode (mth 259).2.1 14 = .ok (.ifCond .eq 7, 3) := by decide +kernel
theorem d_259_17 : decode (mth 259).2.1 17 = .ok (.iconst (-1), 1) := by decide +kernel
theorem d_259_18 : decode (mth 259).2.1 18 = .ok (.goto 6, 3) := by decide +kernel
theorem d_259_21 : decode (mth 259).2.1 21 = .ok (.ldc_w 361, 3) := by decide +kernel
theorem d_259_24 : decode (mth 259).2.1 24 = .ok (.istore_n 3, 1) := by decide +kernel
theorem d_259_25 : decode (mth 259).2.1 25 = .ok (.aload_n 0, 1) := by decide +kernel
theorem d_259_26 : decode (mth 259).2.1 26 = .ok (.invokevirtual 288, 3) := by decide +kernel
theorem d_259_29 : decode (mth 259).2.1 29 = .ok (.iconst 0, 1) := by decide +kernel
theorem d_259_30 : decode (mth 259).2.1 30 = .ok (.istore 4, 2) := by decide +kernel
theorem d_259_32 : decode (mth 259).2.1 32 = .ok (.iload 4, 2) := by decide +kernel
theorem d_259_34 : decode (mth 259).2.1 34 = .ok (.aload_n 0, 1) := by decide +kernel
theorem d_259_35 : decode (mth 259).2.1 35 = .ok (.getfield 7, 3) := by decide +kernel
theorem d_259_38 : decode (mth 259).2.1 38 = .ok (.iconst 0, 1) := by decide +kernel
theorem d_259_39 : decode (mth 259).2.1 39 = .ok (.iaload, 1) := by decide +kernel
theorem d_259_40 : decode (mth 259).2.1 40 = .ok (.if_icmp .gt 60, 3) := by decide +kernel
theorem d_259_43 : decode (mth 259).2.1 43 = .ok (.aload_n 0, 1) := by decide +kernel
theorem d_259_44 : decode (mth 259).2.1 44 = .ok (.iload 4, 2) := by decide +kernel
theorem d_259_46 : decode (mth 259).2.1 46 = .ok (.invokevirtual 135, 3) := by decide +kernel
theorem d_259_49 : decode (mth 259).2.1 49 = .ok (.aload_n 0, 1) := by decide +kernel
theorem d_259_50 : decode (mth 259).2.1 50 = .ok (.iload_n 1, 1) := by decide +kernel
theorem d_259_51 : decode (mth 259).2.1 51 = .ok (.iconst 1, 1) := by decide +kernel
theorem d_259_52 : decode (mth 259).2.1 52 = .ok (.isub, 1) := by decide +kernel
theorem d_259_53 : decode (mth 259).2.1 53 = .ok (.iload_n 2, 1) := by decide +kernel
theorem d_259_54 : decode (mth 259).2.1 54 = .ok (.ifCond .ne 7, 3) := by decide +kernel
theorem d_259_57 : decode (mth 259).2.1 57 = .ok (.iconst 1, 1) := by decide +kernel
theorem d_259_58 : decode (mth 259).2.1 58 = .ok (.goto 4, 3) := by decide +kernel
theorem d_259_61 : decode (mth 259).2.1 61 = .ok (.iconst 0, 1) := by decide +kernel
theorem d_259_62 : decode (mth 259).2.1 62 = .ok (.invokevirtual 362, 3) := by decide +kernel
theorem d_259_65 : decode (mth 259).2.1 65 = .ok (.iadd, 1) := by decide +kernel
theorem d_259_66 : decode (mth 259).2.1 66 = .ok (.istore 5, 2) := by decide +kernel
theorem d_259_68 : decode (mth 259).2.1 68 = .ok (.aload_n 0, 1) := by decide +kernel
theorem d_259_69 : decode (mth 259).2.1 69 = .ok (.invokevirtual 66, 3) := by decide +kernel
theorem d_259_72 : decode (mth 259).2.1 72 = .ok (.iload_n 2, 1) := by decide +kernel
theorem d_259_73 : decode (mth 259).2.1 73 = .ok (.iload 5, 2) := by decide +kernel
theorem d_259_75 : decode (mth 259).2.1 75 = .ok (.iload_n 3, 1) := by decide +kernel
theorem d_259_76 : decode (mth 259).2.1 76 = .ok (.if_icmp .le 7, 3) := by decide +kernel
theorem d_259_79 : decode (mth 259).2.1 79 = .ok (.iconst 1, 1) := by decide +kernel
theorem d_259_80 : decode (mth 259).2.1 80 = .ok (.goto 4, 3) := by decide +kernel
theorem d_259_83 : decode (mth 259).2.1 83 = .ok (.iconst 0, 1) := by decide +kernel
theorem d_259_84 : decode (mth 259).2.1 84 = .ok (.if_icmp .ne 8, 3) := by decide +kernel
theorem d_259_87 : decode (mth 259).2.1 87 = .ok (.iload 5, 2) := by decide +kernel
theorem d_259_89 : decode (mth 259).2.1 89 = .ok (.goto 4, 3) := by decide +kernel
theorem d_259_92 : decode (mth 259).2.1 92 = .ok (.iload_n 3, 1) := by decide +kernel
theorem d_259_93 : decode (mth 259).2.1 93 = .ok (.istore_n 3, 1) := by decide +kernel
theorem d_259_94 : decode (mth 259).2.1 94 = .ok (.iinc 4 1, 3) := by decide +kernel
theorem d_259_97 : decode (mth 259).2.1 97 = .ok (.goto (-65), 3) := by decide +kernel
theorem d_259_100 : decode (mth 259).2.1 100 = .ok (.aload_n 0, 1) := by decide +kernel
theorem d_259_101 : decode (mth 259).2.1 101 = .ok (.invokevirtual 294, 3) := by decide +kernel
theorem d_259_104 : decode (mth 259).2.1 104 = .ok (.iload_n 3, 1) := by decide +kernel
theorem d_259_105 : decode (mth 259).2.1 105 = .ok (.ireturn, 1) := by decide +kernel
/-! 260 PlayedTruthModel.play(I)I -/
theorem d_260_0 : decode (mth 260).2.1 0 = .ok (.iload_n 1, 1) := by decide +kernel
theorem d_260_1 : decode (mth 260).2.1 1 = .ok (.i2l, 1) := by decide +kernel
theorem d_260_2 : decode (mth 260).2.1 2 = .ok (.lconst 1, 1) := by decide +kernel
theorem d_260_3 : decode (mth 260).2.1 3 = .ok (.ldc2_w 320, 3) := by decide +kernel
theorem d_260_6 : decode (mth 260).2.1 6 = .ok (.invokestatic 58, 3) := by decide +kernel
theorem d_260_9 : decode (mth 260).2.1 9 = .ok (.ifCond .ne 5, 3) := by decide +kernel
theorem d_260_12 : decode (mth 260).2.1 12 = .ok (.iconst (-1), 1) := by decide +kernel
theorem d_260_13 : decode (mth 260).2.1 13 = .ok (.ireturn, 1) := by decide +kernel
theorem d_260_14 : decode (mth 260).2.1 14 = .ok (.aload_n 0, 1) := by decide +kernel
theorem d_260_15 : decode (mth 260).2.1 15 = .ok (.invokevirtual 128, 3) := by decide +kernel
theorem d_260_18 : decode (mth 260).2.1 18 = .ok (.ifCond .eq 6, 3) := by decide +kernel
theorem d_260_21 : decode (mth 260).2.1 21 = .ok (.bipush (-3), 2) := by decide +kernel
theorem d_260_23 : decode (mth 260).2.1 23 = .ok (.ireturn, 1) := by decide +kernel
theorem d_260_24 : decode (mth 260).2.1 24 = .ok (.aload_n 0, 1) := by decide +kernel
theorem d_260_25 : decode (mth 260).2.1 25 = .ok (.iload_n 1, 1) := by decide +kernel
theorem d_260_26 : decode (mth 260).2.1 26 = .ok (.iconst 1, 1) := by decide +kernel
theorem d_260_27 : decode (mth 260).2.1 27 = .ok (.invokevirtual 362, 3) := by decide +kernel
theorem d_260_30 : decode (mth 260).2.1 30 = .ok (.istore_n 2, 1) := by decide +kernel
theorem d_260_31 : decode (mth 260).2.1 31 = .ok (.bipush (-3), 2) := by decide +kernel
theorem d_260_33 : decode (mth 260).2.1 33 = .ok (.istore_n 3, 1) := by decide +kernel
theorem d_260_34 : decode (mth 260).2.1 34 = .ok (.aload_n 0, 1) := by decide +kernel
theorem d_260_35 : decode (mth 260).2.1 35 = .ok (.invokevirtual 288, 3) := by decide +kernel
theorem d_260_38 : decode (mth 260).2.1 38 = .ok (.aload_n 0, 1) := by decide +kernel
theorem d_260_39 : decode (mth 260).2.1 39 = .ok (.getfield 7, 3) := by decide +kernel
theorem d_260_42 : decode (mth 260).2.1 42 = .ok (.iconst 0, 1) := by decide +kernel
theorem d_260_43 : decode (mth 260).2.1 43 = .ok (.iaload, 1) := by decide +kernel
theorem d_260_44 : decode (mth 260).2.1 44 = .ok (.istore 4, 2) := by decide +kernel
theorem d_260_46 : decode (mth 260).2.1 46 = .ok (.iload 4, 2) := by decide +kernel
theorem d_260_48 : decode (mth 260).2.1 48 = .ok (.ifCond .lt 43, 3) := by decide +kernel
theorem d_260_51 : decode (mth 260).2.1 51 = .ok (.aload_n 0, 1) := by decide +kernel
theorem d_260_52 : decode (mth 260).2.1 52 = .ok (.iload 4, 2) := by decide +kernel
theorem d_260_54 : decode (mth 260).2.1 54 = .ok (.invokevirtual 135, 3) := by decide +kernel
theorem d_260_57 : decode (mth 260).2.1 57 = .ok (.aload_n 0, 1) := by decide +kernel
theorem d_260_58 : decode (mth 260).2.1 58 = .ok (.iload_n 1, 1) := by decide +kernel
theorem d_260_59 : decode (mth 260).2.1 59 = .ok (.iconst 1, 1) := by decide +kernel
theorem d_260_60 : decode (mth 260).2.1 60 = .ok (.isub, 1) := by decide +kernel
theorem d_260_61 : decode (mth 260).2.1 61 = .ok (.iconst 0, 1) := by decide +kernel
theorem d_260_62 : decode (mth 260).2.1 62 = .ok (.invokevirtual 362, 3) := by decide +kernel
theorem d_260_65 : decode (mth 260).2.1 65 = .ok (.iadd, 1) := by decide +kernel
theorem d_260_66 : decode (mth 260).2.1 66 = .ok (.istore 5, 2) := by decide +kernel
theorem d_260_68 : decode (mth 260).2.1 68 = .ok (.aload_n 0, 1) := by decide +kernel
theorem d_260_69 : decode (mth 260).2.1 69 = .ok (.invokevirtual 66, 3) := by decide +kernel
theorem d_260_72 : decode (mth 260).2.1 72 = .ok (.iload 5, 2) := by decide +kernel
theorem d_260_74 : decode (mth 260).2.1 74 = .ok (.iload_n 2, 1) := by decide +kernel
theorem d_260_75 : decode (mth 260).2.1 75 = .ok (.if_icmp .ne 8, 3) := by decide +kernel
theorem d_260_78 : decode (mth 260).2.1 78 = .ok (.iload 4, 2) := by decide +kernel
theorem d_260_80 : decode (mth 260).2.1 80 = .ok (.goto 4, 3) := by decide +kernel
theorem d_260_83 : decode (mth 260).2.1 83 = .ok (.iload_n 3, 1) := by decide +kernel
theorem d_260_84 : decode (mth 260).2.1 84 = .ok (.istore_n 3, 1) := by decide +kernel
theorem d_260_85 : decode (mth 260).2.1 85 = .ok (.iinc 4 (-1), 3) := by decide +kernel
theorem d_260_88 : decode (mth 260).2.1 88 = .ok (.goto (-42), 3) := by decide +kernel
theorem d_260_91 : decode (mth 260).2.1 91 = .ok (.aload_n 0, 1) := by decide +kernel
theorem d_260_92 : decode (mth 260).2.1 92 = .ok (.invokevirtual 294, 3) := by decide +kernel
theorem d_260_95 : decode (mth 260).2.1 95 = .ok (.iload_n 3, 1) := by decide +kernel
theorem d_260_96 : decode (mth 260).2.1 96 = .ok (.ireturn, 1) := by decide +kernel
/-! 261 PlayedTruthModel.report(IIII)I -/
theorem d_261_0 : decode (mth 261).2.1 0 = .ok (.iload_n 2, 1) := by decide +kernel
theorem d_261_1 : decode (mth 261).2.1 1 = .ok (.ifCond .ne 8, 3) := by decide +kernel
theorem d_261_4 : decode (mth 261).2.1 4 = .ok (.bipush 99, 2) := by decide +kernel
theorem d_261_6 : decode (mth 261).2.1 6 = .ok (.goto 6, 3) := by decide +kernel
theorem d_261_9 : decode (mth 261).2.1 9 = .ok (.sipush 999, 3) := by decide +kernel
theorem d_261_12 : decode (mth 261).2.1 12 = .ok (.istore 5, 2) := by decide +kernel
theorem d_261_14 : decode (mth 261).2.1 14 = .ok (.iload_n 1, 1) := by decide +kernel
theorem d_261_15 : decode (mth 261).2.1 15 = .ok (.i2l, 1) := by decide +kernel
theorem d_261_16 : decode (mth 261).2.1 16 = .ok (.lconst 0, 1) := by decide +kernel
theorem d_261_17 : decode (mth 261).2.1 17 = .ok (.ldc2_w 150, 3) := by decide +kernel
theorem d_261_20 : decode (mth 261).2.1 20 = .ok (.invokestatic 58, 3) := by decide +kernel
theorem d_261_23 : decode (mth 261).2.1 23 = .ok (.ifCond .eq 39, 3) := by decide +kernel
theorem d_261_26 : decode (mth 261).2.1 26 = .ok (.iload_n 2, 1) := by decide +kernel
theorem d_261_27 : decode (mth 261).2.1 27 = .ok (.i2l, 1) := by decide +kernel
theorem d_261_28 : decode (mth 261).2.1 28 = .ok (.lconst 0, 1) := by decide +kernel
theorem d_261_29 : decode (mth 261).2.1 29 = .ok (.lconst 1, 1) := by decide +kernel
theorem d_261_30 : decode (mth 261).2.1 30 = .ok (.invokestatic 58, 3) := by decide +kernel
theorem d_261_33 : decode (mth 261).2.1 33 = .ok (.ifCond .eq 29, 3) := by decide +kernel
theorem d_261_36 : decode (mth 261).2.1 36 = .ok (.iload_n 3, 1) := by decide +kernel
theorem d_261_37 : decode (mth 261).2.1 37 = .ok (.i2l, 1) := by decide +kernel
theorem d_261_38 : decode (mth 261).2.1 38 = .ok (.lconst 0, 1) := by decide +kernel
theorem d_261_39 : decode (mth 261).2.1 39 = .ok (.iload 5, 2) := by decide +kernel
theorem d_261_41 : decode (mth 261).2.1 41 = .ok (.i2l, 1) := by decide +kernel
theorem d_261_42 : decode (mth 261).2.1 42 = .ok (.invokestatic 58, 3) := by decide +kernel
theorem d_261_45 : decode (mth 261).2.1 45 = .ok (.ifCond .eq 17, 3) := by decide +kernel
theorem d_261_48 : decode (mth 261).2.1 48 = .ok (.iload 4, 2) := by decide +kernel
theorem d_261_50 : decode (mth 261).2.1 50 = .ok (.i2l, 1) := by decide +kernel
theorem d_261_51 : decode (mth 261).2.1 51 = .ok (.iload_n 3, 1) := by decide +kernel
theorem d_261_52 : decode (mth 261).2.1 52 = .ok (.i2l, 1) := by decide +kernel
theorem d_261_53 : decode (mth 261).2.1 53 = .ok (.iload 5, 2) := by decide +kernel
theorem d_261_55 : decode (mth 261).2.1 55 = .ok (.i2l, 1) := by decide +kernel
theorem d_261_56 : decode (mth 261).2.1 56 = .ok (.invokestatic 58, 3) := by decide +kernel
theorem d_261_59 : decode (mth 261).2.1 59 = .ok (.ifCond .ne 5, 3) := by decide +kernel
theorem d_261_62 : decode (mth 261).2.1 62 = .ok (.iconst (-1), 1) := by decide +kernel
theorem d_261_63 : decode (mth 261).2.1 63 = .ok (.ireturn, 1) := by decide +kernel
theorem d_261_64 : decode (mth 261).2.1 64 = .ok (.aload_n 0, 1) := by decide +kernel
theorem d_261_65 : decode (mth 261).2.1 65 = .ok (.getfield 7, 3) := by decide +kernel
theorem d_261_68 : decode (mth 261).2.1 68 = .ok (.bipush 6, 2) := by decide +kernel
theorem d_261_70 : decode (mth 261).2.1 70 = .ok (.iaload, 1) := by decide +kernel
theorem d_261_71 : decode (mth 261).2.1 71 = .ok (.bipush 6, 2) := by decide +kernel
theorem d_261_73 : decode (mth 261).2.1 73 = .ok (.if_icmp .ne 6, 3) := by decide +kernel
theorem d_261_76 : decode (mth 261).2.1 76 = .ok (.bipush (-2), 2) := by decide +kernel
theorem d_261_78 : decode (mth 261).2.1 78 = .ok (.ireturn, 1) := by decide +kernel
theorem d_261_79 : decode (mth 261).2.1 79 = .ok (.aload_n 0, 1) := by decide +kernel
theorem d_261_80 : decode (mth 261).2.1 80 = .ok (.getfield 7, 3) := by decide +kernel
theorem d_261_83 : decode (mth 261).2.1 83 = .ok (.bipush 6, 2) := by decide +kernel
theorem d_261_85 : decode (mth 261).2.1 85 = .ok (.iaload, 1) := by decide +kernel
theorem d_261_86 : decode (mth 261).2.1 86 = .ok (.istore 6, 2) := by decide +kernel
theorem d_261_88 : decode (mth 261).2.1 88 = .ok (.aload_n 0, 1) := by decide +kernel
theorem d_261_89 : decode (mth 261).2.1 89 = .ok (.getfield 7, 3) := by decide +kernel
theorem d_261_92 : decode (mth 261).2.1 92 = .ok (.bipush 65, 2) := by decide +kernel
theorem d_261_94 : decode (mth 261).2.1 94 = .ok (.iconst 4, 1) := by decide +kernel
theorem d_261_95 : decode (mth 261).2.1 95 = .ok (.iload 6, 2) := by decide +kernel
theorem d_261_97 : decode (mth 261).2.1 97 = .ok (.imul, 1) := by decide +kernel
theorem d_261_98 : decode (mth 261).2.1 98 = .ok (.iadd, 1) := by decide +kernel
theorem d_261_99 : decode (mth 261).2.1 99 = .ok (.iload_n 1, 1) := by decide +kernel
theorem d_261_100 : decode (mth 261).2.1 100 = .ok (.iastore, 1) := by decide +kernel
theorem d_261_101 : decode (mth 261).2.1 101 = .ok (.aload_n 0, 1) := by decide +kernel
theorem d_261_102 : decode (mth 261).2.1 102 = .ok (.getfield 7, 3) := by decide +kernel
theorem d_261_105 : decode (mth 261).2.1 105 = .ok (.bipush 65, 2) := by decide +kernel
theorem d_261_107 : decode (mth 261).2.1 107 = .ok (.iconst 4, 1) := by decide +kernel
theorem d_261_108 : decode (mth 261).2.1 108 = .ok (.iload 6, 2) := by decide +kernel
theorem d_261_110 : decode (mth 261).2.1 110 = .ok (.imul, 1) := by decide +kernel
theorem d_261_111 : decode (mth 261).2.1 111 = .ok (.iadd, 1) := by decide +kernel
theorem d_261_112 : decode (mth 261).2.1 112 = .ok (.iconst 1, 1) := by decide +kernel
theorem d_261_113 : decode (mth 261).2.1 113 = .ok (.iadd, 1) := by decide +kernel
theorem d_261_114 : decode (mth 261).2.1 114 = .ok (.iload_n 2, 1) := by decide +kernel
theorem d_261_115 : decode (mth 261).2.1 115 = .ok (.iastore, 1) := by decide +kernel
theorem d_261_116 : decode (mth 261).2.1 116 = .ok (.aload_n 0, 1) := by decide +kernel
theorem d_261_117 : decode (mth 261).2.1 117 = .ok (.getfield 7, 3) := by decide +kernel
theorem d_261_120 : decode (mth 261).2.1 120 = .ok (.bipush 65, 2) := by decide +kernel
theorem d_261_122 : decode (mth 261).2.1 122 = .ok (.iconst 4, 1) := by decide +kernel
theorem d_261_123 : decode (mth 261).2.1 123 = .ok (.iload 6, 2) := by decide +kernel
theorem d_261_125 : decode (mth 261).2.1 125 = .ok (.imul, 1) := by decide +kernel
theorem d_261_126 : decode (mth 261).2.1 126 = .ok (.iadd, 1) := by decide +kernel
theorem d_261_127 : decode (mth 261).2.1 127 = .ok (.iconst 2, 1) := by decide +kernel
theorem d_261_128 : decode (mth 261).2.1 128 = .ok (.iadd, 1) := by decide +kernel
theorem d_261_129 : decode (mth 261).2.1 129 = .ok (.iload_n 3, 1) := by decide +kernel
theorem d_261_130 : decode (mth 261).2.1 130 = .ok (.iastore, 1) := by decide +kernel
theorem d_261_131 : decode (mth 261).2.1 131 = .ok (.aload_n 0, 1) := by decide +kernel
theorem d_261_132 : decode (mth 261).2.1 132 = .ok (.getfield 7, 3) := by decide +kernel
theorem d_261_135 : decode (mth 261).2.1 135 = .ok (.bipush 65, 2) := by decide +kernel
theorem d_261_137 : decode (mth 261).2.1 137 = .ok (.iconst 4, 1) := by decide +kernel
theorem d_261_138 : decode (mth 261).2.1 138 = .ok (.iload 6, 2) := by decide +kernel
theorem d_261_140 : decode (mth 261).2.1 140 = .ok (.imul, 1) := by decide +kernel
theorem d_261_141 : decode (mth 261).2.1 141 = .ok (.iadd, 1) := by decide +kernel
theorem d_261_142 : decode (mth 261).2.1 142 = .ok (.iconst 3, 1) := by decide +kernel
theorem d_261_143 : decode (mth 261).2.1 143 = .ok (.iadd, 1) := by decide +kernel
theorem d_261_144 : decode (mth 261).2.1 144 = .ok (.iload 4, 2) := by decide +kernel
theorem d_261_146 : decode (mth 261).2.1 146 = .ok (.iastore, 1) := by decide +kernel
theorem d_261_147 : decode (mth 261).2.1 147 = .ok (.aload_n 0, 1) := by decide +kernel
theorem d_261_148 : decode (mth 261).2.1 148 = .ok (.getfield 7, 3) := by decide +kernel
theorem d_261_151 : decode (mth 261).2.1 151 = .ok (.bipush 6, 2) := by decide +kernel
theorem d_261_153 : decode (mth 261).2.1 153 = .ok (.dup2, 1) := by decide +kernel
theorem d_261_154 : decode (mth 261).2.1 154 = .ok (.iaload, 1) := by decide +kernel
theorem d_261_155 : decode (mth 261).2.1 155 = .ok (.iconst 1, 1) := by decide +kernel
theorem d_261_156 : decode (mth 261).2.1 156 = .ok (.iadd, 1) := by decide +kernel
theorem d_261_157 : decode (mth 261).2.1 157 = .ok (.iastore, 1) := by decide +kernel
theorem d_261_158 : decode (mth 261).2.1 158 = .ok (.iload 6, 2) := by decide +kernel
theorem d_261_160 : decode (mth 261).2.1 160 = .ok (.ireturn, 1) := by decide +kernel
/-! 262 PlayedTruthModel.forget()I -/
theorem d_262_0 : decode (mth 262).2.1 0 = .ok (.aload_n 0, 1) := by decide +kernel
theorem d_262_1 : decode (mth 262).2.1 1 = .ok (.bipush 6, 2) := by decide +kernel
theorem d_262_3 : decode (mth 262).2.1 3 = .ok (.iconst 0, 1) := by decide +kernel
theorem d_262_4 : decode (mth 262).2.1 4 = .ok (.invokevirtual 147, 3) := by decide +kernel
theorem d_262_7 : decode (mth 262).2.1 7 = .ok (.ireturn, 1) := by decide +kernel
/-! 263 PlayedTruthModel.lone(I)I -/
theorem d_263_0 : decode (mth 263).2.1 0 = .ok (.iload_n 1, 1) := by decide +kernel
theorem d_263_1 : decode (mth 263).2.1 1 = .ok (.i2l, 1) := by decide +kernel
theorem d_263_2 : decode (mth 263).2.1 2 = .ok (.lconst 0, 1) := by decide +kernel
theorem d_263_3 : decode (mth 263).2.1 3 = .ok (.ldc2_w 347, 3) := by decide +kernel
theorem d_263_6 : decode (mth 263).2.1 6 = .ok (.invokestatic 58, 3) := by decide +kernel
theorem d_263_9 : decode (mth 263).2.1 9 = .ok (.ifCond .ne 5, 3) := by decide +kernel
theorem d_263_12 : decode (mth 263).2.1 12 = .ok (.iconst (-1), 1) := by decide +kernel
theorem d_263_13 : decode (mth 263).2.1 13 = .ok (.ireturn, 1) := by decide +kernel
theorem d_263_14 : decode (mth 263).2.1 14 = .ok (.aload_n 0, 1) := by decide +kernel
theorem d_263_15 : decode (mth 263).2.1 15 = .ok (.iconst 0, 1) := by decide +kernel
theorem d_263_16 : decode (mth 263).2.1 16 = .ok (.invokevirtual 375, 3) := by decide +kernel
theorem d_263_19 : decode (mth 263).2.1 19 = .ok (.iload_n 1, 1) := by decide +kernel
theorem d_263_20 : decode (mth 263).2.1 20 = .ok (.ifCond .ne 8, 3) := by decide +kernel
theorem d_263_23 : decode (mth 263).2.1 23 = .ok (.aload_n 0, 1) := by decide +kernel
theorem d_263_24 : decode (mth 263).2.1 24 = .ok (.getfield 366, 3) := by decide +kernel
theorem d_263_27 : decode (mth 263).2.1 27 = .ok (.ireturn, 1) := by decide +kernel
theorem d_263_28 : decode (mth 263).2.1 28 = .ok (.aload_n 0, 1) := by decide +kernel
theorem d_263_29 : decode (mth 263).2.1 29 = .ok (.getfield 369, 3) := by decide +kernel
theorem d_263_32 : decode (mth 263).2.1 32 = .ok (.ifCond .ge 8, 3) := by decide +kernel
theorem d_263_35 : decode (mth 263).2.1 35 = .ok (.bipush (-3), 2) := by decide +kernel
theorem d_263_37 : decode (mth 263).2.1 37 = .ok (.goto 48, 3) := by decide +kernel
theorem d_263_40 : decode (mth 263).2.1 40 = .ok (.iload_n 1, 1) := by decide +kernel
theorem d_263_41 : decode (mth 263).2.1 41 = .ok (.iconst 1, 1) := by decide +kernel
theorem d_263_42 : decode (mth 263).2.1 42 = .ok (.if_icmp .ne 15, 3) := by decide +kernel
theorem d_263_45 : decode (mth 263).2.1 45 = .ok (.iconst 1, 1) := by decide +kernel
theorem d_263_46 : decode (mth 263).2.1 46 = .ok (.aload_n 0, 1) := by decide +kernel
theorem d_263_47 : decode (mth 263).2.1 47 = .ok (.getfield 369, 3) := by decide +kernel
theorem d_263_50 : decode (mth 263).2.1 50 = .ok (.bipush 100, 2) := by decide +kernel
theorem d_263_52 : decode (mth 263).2.1 52 = .ok (.idiv, 1) := by decide +kernel
theorem d_263_53 : decode (mth 263).2.1 53 = .ok (.iadd, 1) := by decide +kernel
theorem d_263_54 : decode (mth 263).2.1 54 = .ok (.goto 31, 3) := by decide +kernel
theorem d_263_57 : decode (mth 263).2.1 57 = .ok (.iload_n 1, 1) := by decide +kernel
theorem d_263_58 : decode (mth 263).2.1 58 = .ok (.iconst 2, 1) := by decide +kernel
theorem d_263_59 : decode (mth 263).2.1 59 = .ok (.if_icmp .ne 16, 3) := by decide +kernel
theorem d_263_62 : decode (mth 263).2.1 62 = .ok (.aload_n 0, 1) := by decide +kernel
theorem d_263_63 : decode (mth 263).2.1 63 = .ok (.getfield 369, 3) := by decide +kernel
theorem d_263_66 : decode (mth 263).2.1 66 = .ok (.bipush 10, 2) := by decide +kernel
theorem d_263_68 : decode (mth 263).2.1 68 = .ok (.idiv, 1) := by decide +kernel
theorem d_263_69 : decode (mth 263).2.1 69 = .ok (.bipush 10, 2) := by decide +kernel
theorem d_263_71 : decode (mth 263).2.1 71 = .ok (.irem, 1) := by decide +kernel
theorem d_263_72 : decode (mth 263).2.1 72 = .ok (.goto 13, 3) := by decide +kernel
theorem d_263_75 : decode (mth 263).2.1 75 = .ok (.bipush 6, 2) := by decide +kernel
theorem d_263_77 : decode (mth 263).2.1 77 = .ok (.aload_n 0, 1) := by decide +kernel
theorem d_263_78 : decode (mth 263).2.1 78 = .ok (.getfield 369, 3) := by decide +kernel
theorem d_263_81 : decode (mth 263).2.1 81 = .ok (.bipush 10, 2) := by decide +kernel
theorem d_263_83 : decode (mth 263).2.1 83 = .ok (.irem, 1) := by decide +kernel
theorem d_263_84 : decode (mth 263).2.1 84 = .ok (.imul, 1) := by decide +kernel
theorem d_263_85 : decode (mth 263).2.1 85 = .ok (.ireturn, 1) := by decide +kernel
/-! 264 PlayedTruthModel.findLone(I)V -/
theorem d_264_0 : decode (mth 264).2.1 0 = .ok (.iconst 1, 1) := by decide +kernel
theorem d_264_1 : decode (mth 264).2.1 1 = .ok (.aload_n 0, 1) := by decide +kernel
theorem d_264_2 : decode (mth 264).2.1 2 = .ok (.getfield 7, 3) := by decide +kernel
theorem d_264_5 : decode (mth 264).2.1 5 = .ok (.bipush 6, 2) := by decide +kernel
theorem d_264_7 : decode (mth 264).2.1 7 = .ok (.iaload, 1) := by decide +kernel
theorem d_264_8 : decode (mth 264).2.1 8 = .ok (.ishl, 1) := by decide +kernel
theorem d_264_9 : decode (mth 264).2.1 9 = .ok (.iconst 1, 1) := by decide +kernel
theorem d_264_10 : decode (mth 264).2.1 10 = .ok (.isub, 1) := by decide +kernel
theorem d_264_11 : decode (mth 264).2.1 11 = .ok (.iload_n 1, 1) := by decide +kernel
theorem d_264_12 : decode (mth 264).2.1 12 = .ok (.iconst (-1), 1) := by decide +kernel
theorem d_264_13 : decode (mth 264).2.1 13 = .ok (.ixor, 1) := by decide +kernel
theorem d_264_14 : decode (mth 264).2.1 14 = .ok (.iand, 1) := by decide +kernel
theorem d_264_15 : decode (mth 264).2.1 15 = .ok (.istore_n 2, 1) := by decide +kernel
theorem d_264_16 : decode (mth 264).2.1 16 = .ok (.aload_n 0, 1) := by decide +kernel
theorem d_264_17 : decode (mth 264).2.1 17 = .ok (.iconst 0, 1) := by decide +kernel
theorem d_264_18 : decode (mth 264).2.1 18 = .ok (.putfield 366, 3) := by decide +kernel
theorem d_264_21 : decode (mth 264).2.1 21 = .ok (.aload_n 0, 1) := by decide +kernel
theorem d_264_22 : decode (mth 264).2.1 22 = .ok (.bipush (-3), 2) := by decide +kernel
theorem d_264_24 : decode (mth 264).2.1 24 = .ok (.putfield 369, 3) := by decide +kernel
theorem d_264_27 : decode (mth 264).2.1 27 = .ok (.sipush 499, 3) := by decide +kernel
theorem d_264_30 : decode (mth 264).2.1 30 = .ok (.istore_n 3, 1) := by decide +kernel
theorem d_264_31 : decode (mth 264).2.1 31 = .ok (.iload_n 3, 1) := by decide +kernel
theorem d_264_32 : decode (mth 264).2.1 32 = .ok (.ifCond .lt 83, 3) := by decide +kernel
theorem d_264_35 : decode (mth 264).2.1 35 = .ok (.iload_n 2, 1) := by decide +kernel
theorem d_264_36 : decode (mth 264).2.1 36 = .ok (.aload_n 0, 1) := by decide +kernel
theorem d_264_37 : decode (mth 264).2.1 37 = .ok (.iconst 1, 1) := by decide +kernel
theorem d_264_38 : decode (mth 264).2.1 38 = .ok (.iload_n 3, 1) := by decide +kernel
theorem d_264_39 : decode (mth 264).2.1 39 = .ok (.bipush 100, 2) := by decide +kernel
theorem d_264_41 : decode (mth 264).2.1 41 = .ok (.idiv, 1) := by decide +kernel
theorem d_264_42 : decode (mth 264).2.1 42 = .ok (.iadd, 1) := by decide +kernel
theorem d_264_43 : decode (mth 264).2.1 43 = .ok (.iload_n 3, 1) := by decide +kernel
theorem d_264_44 : decode (mth 264).2.1 44 = .ok (.bipush 10, 2) := by decide +kernel
theorem d_264_46 : decode (mth 264).2.1 46 = .ok (.idiv, 1) := by decide +kernel
theorem d_264_47 : decode (mth 264).2.1 47 = .ok (.bipush 10, 2) := by decide +kernel
theorem d_264_49 : decode (mth 264).2.1 49 = .ok (.irem, 1) := by decide +kernel
theorem d_264_50 : decode (mth 264).2.1 50 = .ok (.bipush 6, 2) := by decide +kernel
theorem d_264_52 : decode (mth 264).2.1 52 = .ok (.iload_n 3, 1) := by decide +kernel
theorem d_264_53 : decode (mth 264).2.1 53 = .ok (.bipush 10, 2) := by decide +kernel
theorem d_264_55 : decode (mth 264).2.1 55 = .ok (.irem, 1) := by decide +kernel
theorem d_264_56 : decode (mth 264).2.1 56 = .ok (.imul, 1) := by decide +kernel
theorem d_264_57 : decode (mth 264).2.1 57 = .ok (.invokevirtual 372, 3) := by decide +kernel
theorem d_264_60 : decode (mth 264).2.1 60 = .ok (.iconst (-1), 1) := by decide +kernel
theorem d_264_61 : decode (mth 264).2.1 61 = .ok (.ixor, 1) := by decide +kernel
theorem d_264_62 : decode (mth 264).2.1 62 = .ok (.iand, 1) := by decide +kernel
theorem d_264_63 : decode (mth 264).2.1 63 = .ok (.ifCond .ne 7, 3) := by decide +kernel
theorem d_264_66 : decode (mth 264).2.1 66 = .ok (.iconst 1, 1) := by decide +kernel
theorem d_264_67 : decode (mth 264).2.1 67 = .ok (.goto 4, 3) := by decide +kernel
theorem d_264_70 : decode (mth 264).2.1 70 = .ok (.iconst 0, 1) := by decide +kernel
theorem d_264_71 : decode (mth 264).2.1 71 = .ok (.istore 4, 2) := by decide +kernel
theorem d_264_73 : decode (mth 264).2.1 73 = .ok (.aload_n 0, 1) := by decide +kernel
theorem d_264_74 : decode (mth 264).2.1 74 = .ok (.dup, 1) := by decide +kernel
theorem d_264_75 : decode (mth 264).2.1 75 = .ok (.getfield 366, 3) := by decide +kernel
theorem d_264_78 : decode (mth 264).2.1 78 = .ok (.iload 4, 2) := by decide +kernel
theorem d_264_80 : decode (mth 264).2.1 80 = .ok (.ifCond .eq 7, 3) := by decide +kernel
theorem d_264_83 : decode (mth 264).2.1 83 = .ok (.iconst 1, 1) := by decide +kernel
theorem d_264_84 : decode (mth 264).2.1 84 = .ok (.goto 4, 3) := by decide +kernel
theorem d_264_87 : decode (mth 264).2.1 87 = .ok (.iconst 0, 1) := by decide +kernel
theorem d_264_88 : decode (mth 264).2.1 88 = .ok (.iadd, 1) := by decide +kernel
theorem d_264_89 : decode (mth 264).2.1 89 = .ok (.putfield 366, 3) := by decide +kernel
theorem d_264_92 : decode (mth 264).2.1 92 = .ok (.aload_n 0, 1) := by decide +kernel
theorem d_264_93 : decode (mth 264).2.1 93 = .ok (.iload 4, 2) := by decide +kernel
theorem d_264_95 : decode (mth 264).2.1 95 = .ok (.ifCond .eq 7, 3) := by decide +kernel
theorem d_264_98 : decode (mth 264).2.1 98 = .ok (.iload_n 3, 1) := by decide +kernel
theorem d_264_99 : decode (mth 264).2.1 99 = .ok (.goto 7, 3) := by decide +kernel
theorem d_264_102 : decode (mth 264).2.1 102 = .ok (.aload_n 0, 1) := by decide +kernel
theorem d_264_103 : decode (mth 264).2.1 103 = .ok (.getfield 369, 3) := by decide +kernel
theorem d_264_106 : decode (mth 264).2.1 106 = .ok (.putfield 369, 3) := by decide +kernel
theorem d_264_109 : decode (mth 264).2.1 109 = .ok (.iinc 3 (-1), 3) := by decide +kernel
theorem d_264_112 : decode (mth 264).2.1 112 = .ok (.goto (-81), 3) := by decide +kernel
theorem d_264_115 : decode (mth 264).2.1 115 = .ok (.return_, 1) := by decide +kernel
/-! 265 PlayedTruthModel.fitting(III)I -/
theorem d_265_0 : decode (mth 265).2.1 0 = .ok (.iconst 0, 1) := by decide +kernel
theorem d_265_1 : decode (mth 265).2.1 1 = .ok (.istore 4, 2) := by decide +kernel
theorem d_265_3 : decode (mth 265).2.1 3 = .ok (.iload_n 3, 1) := by decide +kernel
theorem d_265_4 : decode (mth 265).2.1 4 = .ok (.istore 5, 2) := by decide +kernel
theorem d_265_6 : decode (mth 265).2.1 6 = .ok (.iconst 0, 1) := by decide +kernel
theorem d_265_7 : decode (mth 265).2.1 7 = .ok (.istore 6, 2) := by decide +kernel
theorem d_265_9 : decode (mth 265).2.1 9 = .ok (.iconst 0, 1) := by decide +kernel
theorem d_265_10 : decode (mth 265).2.1 10 = .ok (.istore 7, 2) := by decide +kernel
theorem d_265_12 : decode (mth 265).2.1 12 = .ok (.iload 7, 2) := by decide +kernel
theorem d_265_14 : decode (mth 265).2.1 14 = .ok (.bipush 16, 2) := by decide +kernel
theorem d_265_16 : decode (mth 265).2.1 16 = .ok (.if_icmp .ge 181, 3) := by decide +kernel
theorem d_265_19 : decode (mth 265).2.1 19 = .ok (.iconst 0, 1) := by decide +kernel
theorem d_265_20 : decode (mth 265).2.1 20 = .ok (.istore 8, 2) := by decide +kernel
theorem d_265_22 : decode (mth 265).2.1 22 = .ok (.iload 8, 2) := by decide +kernel
theorem d_265_24 : decode (mth 265).2.1 24 = .ok (.aload_n 0, 1) := by decide +kernel
theorem d_265_25 : decode (mth 265).2.1 25 = .ok (.getfield 7, 3) := by decide +kernel
theorem d_265_28 : decode (mth 265).2.1 28 = .ok (.bipush 6, 2) := by decide +kernel
theorem d_265_30 : decode (mth 265).2.1 30 = .ok (.iaload, 1) := by decide +kernel
theorem d_265_31 : decode (mth 265).2.1 31 = .ok (.if_icmp .ge 116, 3) := by decide +kernel
theorem d_265_34 : decode (mth 265).2.1 34 = .ok (.aload_n 0, 1) := by decide +kernel
theorem d_265_35 : decode (mth 265).2.1 35 = .ok (.getfield 7, 3) := by decide +kernel
theorem d_265_38 : decode (mth 265).2.1 38 = .ok (.bipush 65, 2) := by decide +kernel
theorem d_265_40 : decode (mth 265).2.1 40 = .ok (.iconst 4, 1) := by decide +kernel
theorem d_265_41 : decode (mth 265).2.1 41 = .ok (.iload 8, 2) := by decide +kernel
theorem d_265_43 : decode (mth 265).2.1 43 = .ok (.imul, 1) := by decide +kernel
theorem d_265_44 : decode (mth 265).2.1 44 = .ok (.iadd, 1) := by decide +kernel
theorem d_265_45 : decode (mth 265).2.1 45 = .ok (.iconst 1, 1) := by decide +kernel
theorem d_265_46 : decode (mth 265).2.1 46 = .ok (.iadd, 1) := by decide +kernel
theorem d_265_47 : decode (mth 265).2.1 47 = .ok (.iaload, 1) := by decide +kernel
theorem d_265_48 : decode (mth 265).2.1 48 = .ok (.ifCond .ne 8, 3) := by decide +kernel
theorem d_265_51 : decode (mth 265).2.1 51 = .ok (.iload 5, 2) := by decide +kernel
theorem d_265_53 : decode (mth 265).2.1 53 = .ok (.goto 5, 3) := by decide +kernel
theorem d_265_56 : decode (mth 265).2.1 56 = .ok (.iload 6, 2) := by decide +kernel
theorem d_265_58 : decode (mth 265).2.1 58 = .ok (.istore 9, 2) := by decide +kernel
theorem d_265_60 : decode (mth 265).2.1 60 = .ok (.aload_n 0, 1) := by decide +kernel
theorem d_265_61 : decode (mth 265).2.1 61 = .ok (.getfield 7, 3) := by decide +kernel
theorem d_265_64 : decode (mth 265).2.1 64 = .ok (.bipush 65, 2) := by decide +kernel
theorem d_265_66 : decode (mth 265).2.1 66 = .ok (.iconst 4, 1) := by decide +kernel
theorem d_265_67 : decode (mth 265).2.1 67 = .ok (.iload 8, 2) := by decide +kernel
theorem d_265_69 : decode (mth 265).2.1 69 = .ok (.imul, 1) := by decide +kernel
theorem d_265_70 : decode (mth 265).2.1 70 = .ok (.iadd, 1) := by decide +kernel
theorem d_265_71 : decode (mth 265).2.1 71 = .ok (.iaload, 1) := by decide +kernel
theorem d_265_72 : decode (mth 265).2.1 72 = .ok (.iload 7, 2) := by decide +kernel
theorem d_265_74 : decode (mth 265).2.1 74 = .ok (.if_icmp .ne 46, 3) := by decide +kernel
theorem d_265_77 : decode (mth 265).2.1 77 = .ok (.iload 9, 2) := by decide +kernel
theorem d_265_79 : decode (mth 265).2.1 79 = .ok (.i2l, 1) := by decide +kernel
theorem d_265_80 : decode (mth 265).2.1 80 = .ok (.aload_n 0, 1) := by decide +kernel
theorem d_265_81 : decode (mth 265).2.1 81 = .ok (.getfield 7, 3) := by decide +kernel
theorem d_265_84 : decode (mth 265).2.1 84 = .ok (.bipush 65, 2) := by decide +kernel
theorem d_265_86 : decode (mth 265).2.1 86 = .ok (.iconst 4, 1) := by decide +kernel
theorem d_265_87 : decode (mth 265).2.1 87 = .ok (.iload 8, 2) := by decide +kernel
theorem d_265_89 : decode (mth 265).2.1 89 = .ok (.imul, 1) := by decide +kernel
theorem d_265_90 : decode (mth 265).2.1 90 = .ok (.iadd, 1) := by decide +kernel
theorem d_265_91 : decode (mth 265).2.1 91 = .ok (.iconst 2, 1) := by decide +kernel
theorem d_265_92 : decode (mth 265).2.1 92 = .ok (.iadd, 1) := by decide +kernel
theorem d_265_93 : decode (mth 265).2.1 93 = .ok (.iaload, 1) := by decide +kernel
theorem d_265_94 : decode (mth 265).2.1 94 = .ok (.i2l, 1) := by decide +kernel
theorem d_265_95 : decode (mth 265).2.1 95 = .ok (.aload_n 0, 1) := by decide +kernel
theorem d_265_96 : decode (mth 265).2.1 96 = .ok (.getfield 7, 3) := by decide +kernel
theorem d_265_99 : decode (mth 265).2.1 99 = .ok (.bipush 65, 2) := by decide +kernel
theorem d_265_101 : decode (mth 265).2.1 101 = .ok (.iconst 4, 1) := by decide +kernel
theorem d_265_102 : decode (mth 265).2.1 102 = .ok (.iload 8, 2) := by decide +kernel
theorem d_265_104 : decode (mth 265).2.1 104 = .ok (.imul, 1) := by decide +kernel
theorem d_265_105 : decode (mth 265).2.1 105 = .ok (.iadd, 1) := by decide +kernel
theorem d_265_106 : decode (mth 265).2.1 106 = .ok (.iconst 3, 1) := by decide +kernel
theorem d_265_107 : decode (mth 265).2.1 107 = .ok (.iadd, 1) := by decide +kernel
theorem d_265_108 : decode (mth 265).2.1 108 = .ok (.iaload, 1) := by decide +kernel
theorem d_265_109 : decode (mth 265).2.1 109 = .ok (.i2l, 1) := by decide +kernel
theorem d_265_110 : decode (mth 265).2.1 110 = .ok (.invokestatic 58, 3) := by decide +kernel
theorem d_265_113 : decode (mth 265).2.1 113 = .ok (.ifCond .eq 7, 3) := by decide +kernel
theorem d_265_116 : decode (mth 265).2.1 116 = .ok (.iconst 1, 1) := by decide +kernel
theorem d_265_117 : decode (mth 265).2.1 117 = .ok (.goto 4, 3) := by decide +kernel
theorem d_265_120 : decode (mth 265).2.1 120 = .ok (.iconst 0, 1) := by decide +kernel
theorem d_265_121 : decode (mth 265).2.1 121 = .ok (.istore 10, 2) := by decide +kernel
theorem d_265_123 : decode (mth 265).2.1 123 = .ok (.iload 4, 2) := by decide +kernel
theorem d_265_125 : decode (mth 265).2.1 125 = .ok (.iload 10, 2) := by decide +kernel
theorem d_265_127 : decode (mth 265).2.1 127 = .ok (.ifCond .eq 10, 3) := by decide +kernel
theorem d_265_130 : decode (mth 265).2.1 130 = .ok (.iconst 1, 1) := by decide +kernel
theorem d_265_131 : decode (mth 265).2.1 131 = .ok (.iload 8, 2) := by decide +kernel
theorem d_265_133 : decode (mth 265).2.1 133 = .ok (.ishl, 1) := by decide +kernel
theorem d_265_134 : decode (mth 265).2.1 134 = .ok (.goto 4, 3) := by decide +kernel
theorem d_265_137 : decode (mth 265).2.1 137 = .ok (.iconst 0, 1) := by decide +kernel
theorem d_265_138 : decode (mth 265).2.1 138 = .ok (.ior, 1) := by decide +kernel
theorem d_265_139 : decode (mth 265).2.1 139 = .ok (.istore 4, 2) := by decide +kernel
theorem d_265_141 : decode (mth 265).2.1 141 = .ok (.iinc 8 1, 3) := by decide +kernel
theorem d_265_144 : decode (mth 265).2.1 144 = .ok (.goto (-122), 3) := by decide +kernel
theorem d_265_147 : decode (mth 265).2.1 147 = .ok (.iload 5, 2) := by decide +kernel
theorem d_265_149 : decode (mth 265).2.1 149 = .ok (.iload_n 1, 1) := by decide +kernel
theorem d_265_150 : decode (mth 265).2.1 150 = .ok (.aload_n 0, 1) := by decide +kernel
theorem d_265_151 : decode (mth 265).2.1 151 = .ok (.getfield 7, 3) := by decide +kernel
theorem d_265_154 : decode (mth 265).2.1 154 = .ok (.bipush 7, 2) := by decide +kernel
theorem d_265_156 : decode (mth 265).2.1 156 = .ok (.iload 7, 2) := by decide +kernel
theorem d_265_158 : decode (mth 265).2.1 158 = .ok (.iadd, 1) := by decide +kernel
theorem d_265_159 : decode (mth 265).2.1 159 = .ok (.iaload, 1) := by decide +kernel
theorem d_265_160 : decode (mth 265).2.1 160 = .ok (.iconst 4, 1) := by decide +kernel
theorem d_265_161 : decode (mth 265).2.1 161 = .ok (.idiv, 1) := by decide +kernel
theorem d_265_162 : decode (mth 265).2.1 162 = .ok (.iload 5, 2) := by decide +kernel
theorem d_265_164 : decode (mth 265).2.1 164 = .ok (.iload 7, 2) := by decide +kernel
theorem d_265_166 : decode (mth 265).2.1 166 = .ok (.invokestatic 85, 3) := by decide +kernel
theorem d_265_169 : decode (mth 265).2.1 169 = .ok (.iadd, 1) := by decide +kernel
theorem d_265_170 : decode (mth 265).2.1 170 = .ok (.iconst 0, 1) := by decide +kernel
theorem d_265_171 : decode (mth 265).2.1 171 = .ok (.bipush 99, 2) := by decide +kernel
theorem d_265_173 : decode (mth 265).2.1 173 = .ok (.invokestatic 73, 3) := by decide +kernel
theorem d_265_176 : decode (mth 265).2.1 176 = .ok (.istore 5, 2) := by decide +kernel
theorem d_265_178 : decode (mth 265).2.1 178 = .ok (.iload 6, 2) := by decide +kernel
theorem d_265_180 : decode (mth 265).2.1 180 = .ok (.iload_n 1, 1) := by decide +kernel
theorem d_265_181 : decode (mth 265).2.1 181 = .ok (.iload_n 2, 1) := by decide +kernel
theorem d_265_182 : decode (mth 265).2.1 182 = .ok (.iload 5, 2) := by decide +kernel
theorem d_265_184 : decode (mth 265).2.1 184 = .ok (.iconst 0, 1) := by decide +kernel
theorem d_265_185 : decode (mth 265).2.1 185 = .ok (.invokestatic 92, 3) := by decide +kernel
theorem d_265_188 : decode (mth 265).2.1 188 = .ok (.iadd, 1) := by decide +kernel
theorem d_265_189 : decode (mth 265).2.1 189 = .ok (.istore 6, 2) := by decide +kernel
theorem d_265_191 : decode (mth 265).2.1 191 = .ok (.iinc 7 1, 3) := by decide +kernel
theorem d_265_194 : decode (mth 265).2.1 194 = .ok (.goto (-182), 3) := by decide +kernel
theorem d_265_197 : decode (mth 265).2.1 197 = .ok (.iload 4, 2) := by decide +kernel
theorem d_265_199 : decode (mth 265).2.1 199 = .ok (.ireturn, 1) := by decide +kernel
/-! 266 PlayedTruthModel.liar()I -/
theorem d_266_0 : decode (mth 266).2.1 0 = .ok (.aload_n 0, 1) := by decide +kernel
theorem d_266_1 : decode (mth 266).2.1 1 = .ok (.iconst 0, 1) := by decide +kernel
theorem d_266_2 : decode (mth 266).2.1 2 = .ok (.invokevirtual 375, 3) := by decide +kernel
theorem d_266_5 : decode (mth 266).2.1 5 = .ok (.aload_n 0, 1) := by decide +kernel
theorem d_266_6 : decode (mth 266).2.1 6 = .ok (.getfield 366, 3) := by decide +kernel
theorem d_266_9 : decode (mth 266).2.1 9 = .ok (.ifCond .le 6, 3) := by decide +kernel
theorem d_266_12 : decode (mth 266).2.1 12 = .ok (.bipush (-3), 2) := by decide +kernel
theorem d_266_14 : decode (mth 266).2.1 14 = .ok (.ireturn, 1) := by decide +kernel
theorem d_266_15 : decode (mth 266).2.1 15 = .ok (.iconst 0, 1) := by decide +kernel
theorem d_266_16 : decode (mth 266).2.1 16 = .ok (.istore_n 1, 1) := by decide +kernel
theorem d_266_17 : decode (mth 266).2.1 17 = .ok (.iload_n 1, 1) := by decide +kernel
theorem d_266_18 : decode (mth 266).2.1 18 = .ok (.aload_n 0, 1) := by decide +kernel
theorem d_266_19 : decode (mth 266).2.1 19 = .ok (.getfield 7, 3) := by decide +kernel
theorem d_266_22 : decode (mth 266).2.1 22 = .ok (.bipush 6, 2) := by decide +kernel
theorem d_266_24 : decode (mth 266).2.1 24 = .ok (.iaload, 1) := by decide +kernel
theorem d_266_25 : decode (mth 266).2.1 25 = .ok (.if_icmp .ge 25, 3) := by decide +kernel
theorem d_266_28 : decode (mth 266).2.1 28 = .ok (.aload_n 0, 1) := by decide +kernel
theorem d_266_29 : decode (mth 266).2.1 29 = .ok (.iconst 1, 1) := by decide +kernel
theorem d_266_30 : decode (mth 266).2.1 30 = .ok (.iload_n 1, 1) := by decide +kernel
theorem d_266_31 : decode (mth 266).2.1 31 = .ok (.ishl, 1) := by decide +kernel
theorem d_266_32 : decode (mth 266).2.1 32 = .ok (.invokevirtual 375, 3) := by decide +kernel
theorem d_266_35 : decode (mth 266).2.1 35 = .ok (.aload_n 0, 1) := by decide +kernel
theorem d_266_36 : decode (mth 266).2.1 36 = .ok (.getfield 366, 3) := by decide +kernel
theorem d_266_39 : decode (mth 266).2.1 39 = .ok (.ifCond .le 5, 3) := by decide +kernel
theorem d_266_42 : decode (mth 266).2.1 42 = .ok (.iload_n 1, 1) := by decide +kernel
theorem d_266_43 : decode (mth 266).2.1 43 = .ok (.ireturn, 1) := by decide +kernel
theorem d_266_44 : decode (mth 266).2.1 44 = .ok (.iinc 1 1, 3) := by decide +kernel
theorem d_266_47 : decode (mth 266).2.1 47 = .ok (.goto (-30), 3) := by decide +kernel
theorem d_266_50 : decode (mth 266).2.1 50 = .ok (.bipush (-3), 2) := by decide +kernel
theorem d_266_52 : decode (mth 266).2.1 52 = .ok (.ireturn, 1) := by decide +kernel
/-! 267 PlayedTruthModel.seed(I)I -/
theorem d_267_0 : decode (mth 267).2.1 0 = .ok (.aload_n 0, 1) := by decide +kernel
theorem d_267_1 : decode (mth 267).2.1 1 = .ok (.iconst 4, 1) := by decide +kernel
theorem d_267_2 : decode (mth 267).2.1 2 = .ok (.iload_n 1, 1) := by decide +kernel
theorem d_267_3 : decode (mth 267).2.1 3 = .ok (.invokevirtual 147, 3) := by decide +kernel
theorem d_267_6 : decode (mth 267).2.1 6 = .ok (.ireturn, 1) := by decide +kernel
/-! 268 PlayedTruthModel.lot()I -/
theorem d_268_0 : decode (mth 268).2.1 0 = .ok (.aload_n 0, 1) := by decide +kernel
theorem d_268_1 : decode (mth 268).2.1 1 = .ok (.invokevirtual 128, 3) := by decide +kernel
theorem d_268_4 : decode (mth 268).2.1 4 = .ok (.ifCond .eq 8, 3) := by decide +kernel
theorem d_268_7 : decode (mth 268).2.1 7 = .ok (.bipush (-4), 2) := by decide +kernel
theorem d_268_9 : decode (mth 268).2.1 9 = .ok (.goto 7, 3) := by decide +kernel
theorem d_268_12 : decode (mth 268).2.1 12 = .ok (.aload_n 0, 1) := by decide +kernel
theorem d_268_13 : decode (mth 268).2.1 13 = .ok (.invokevirtual 379, 3) := by decide +kernel
theorem d_268_16 : decode (mth 268).2.1 16 = .ok (.ireturn, 1) := by decide +kernel
/-! 269 PlayedTruthModel.lotGoes()I -/
theorem d_269_0 : decode (mth 269).2.1 0 = .ok (.aload_n 0, 1) := by decide +kernel
theorem d_269_1 : decode (mth 269).2.1 1 = .ok (.getfield 7, 3) := by decide +kernel
theorem d_269_4 : decode (mth 269).2.1 4 = .ok (.iconst 4, 1) := by decide +kernel
theorem d_269_5 : decode (mth 269).2.1 5 = .ok (.aload_n 0, 1) := by decide +kernel
theorem d_269_6 : decode (mth 269).2.1 6 = .ok (.getfield 7, 3) := by decide +kernel
theorem d_269_9 : decode (mth 269).2.1 9 = .ok (.iconst 4, 1) := by decide +kernel
theorem d_269_10 : decode (mth 269).2.1 10 = .ok (.iaload, 1) := by decide +kernel
theorem d_269_11 : decode (mth 269).2.1 11 = .ok (.ldc_w 378, 3) := by decide +kernel
theorem d_269_14 : decode (mth 269).2.1 14 = .ok (.imul, 1) := by decide +kernel
theorem d_269_15 : decode (mth 269).2.1 15 = .ok (.sipush 12345, 3) := by decide +kernel
theorem d_269_18 : decode (mth 269).2.1 18 = .ok (.iadd, 1) := by decide +kernel
theorem d_269_19 : decode (mth 269).2.1 19 = .ok (.iastore, 1) := by decide +kernel
theorem d_269_20 : decode (mth 269).2.1 20 = .ok (.aload_n 0, 1) := by decide +kernel
theorem d_269_21 : decode (mth 269).2.1 21 = .ok (.aload_n 0, 1) := by decide +kernel
theorem d_269_22 : decode (mth 269).2.1 22 = .ok (.getfield 7, 3) := by decide +kernel
theorem d_269_25 : decode (mth 269).2.1 25 = .ok (.iconst 4, 1) := by decide +kernel
theorem d_269_26 : decode (mth 269).2.1 26 = .ok (.iaload, 1) := by decide +kernel
theorem d_269_27 : decode (mth 269).2.1 27 = .ok (.bipush 16, 2) := by decide +kernel
theorem d_269_29 : decode (mth 269).2.1 29 = .ok (.iushr, 1) := by decide +kernel
theorem d_269_30 : decode (mth 269).2.1 30 = .ok (.aload_n 0, 1) := by decide +kernel
theorem d_269_31 : decode (mth 269).2.1 31 = .ok (.getfield 7, 3) := by decide +kernel
theorem d_269_34 : decode (mth 269).2.1 34 = .ok (.iconst 0, 1) := by decide +kernel
theorem d_269_35 : decode (mth 269).2.1 35 = .ok (.iaload, 1) := by decide +kernel
theorem d_269_36 : decode (mth 269).2.1 36 = .ok (.iconst 1, 1) := by decide +kernel
theorem d_269_37 : decode (mth 269).2.1 37 = .ok (.iadd, 1) := by decide +kernel
theorem d_269_38 : decode (mth 269).2.1 38 = .ok (.irem, 1) := by decide +kernel
theorem d_269_39 : decode (mth 269).2.1 39 = .ok (.invokevirtual 135, 3) := by decide +kernel
theorem d_269_42 : decode (mth 269).2.1 42 = .ok (.ireturn, 1) := by decide +kernel
/-! 270 PlayedTruthModel.times(II)I -/
theorem d_270_0 : decode (mth 270).2.1 0 = .ok (.iload_n 1, 1) := by decide +kernel
theorem d_270_1 : decode (mth 270).2.1 1 = .ok (.i2l, 1) := by decide +kernel
theorem d_270_2 : decode (mth 270).2.1 2 = .ok (.lconst 1, 1) := by decide +kernel
theorem d_270_3 : decode (mth 270).2.1 3 = .ok (.ldc2_w 382, 3) := by decide +kernel
theorem d_270_6 : decode (mth 270).2.1 6 = .ok (.invokestatic 58, 3) := by decide +kernel
theorem d_270_9 : decode (mth 270).2.1 9 = .ok (.ifCond .eq 15, 3) := by decide +kernel
theorem d_270_12 : decode (mth 270).2.1 12 = .ok (.iload_n 2, 1) := by decide +kernel
theorem d_270_13 : decode (mth 270).2.1 13 = .ok (.i2l, 1) := by decide +kernel
theorem d_270_14 : decode (mth 270).2.1 14 = .ok (.lconst 0, 1) := by decide +kernel
theorem d_270_15 : decode (mth 270).2.1 15 = .ok (.ldc2_w 315, 3) := by decide +kernel
theorem d_270_18 : decode (mth 270).2.1 18 = .ok (.invokestatic 58, 3) := by decide +kernel
theorem d_270_21 : decode (mth 270).2.1 21 = .ok (.ifCond .ne 5, 3) := by decide +kernel
theorem d_270_24 : decode (mth 270).2.1 24 = .ok (.iconst (-1), 1) := by decide +kernel
theorem d_270_25 : decode (mth 270).2.1 25 = .ok (.ireturn, 1) := by decide +kernel
theorem d_270_26 : decode (mth 270).2.1 26 = .ok (.aload_n 0, 1) := by decide +kernel
theorem d_270_27 : decode (mth 270).2.1 27 = .ok (.invokevirtual 288, 3) := by decide +kernel
theorem d_270_30 : decode (mth 270).2.1 30 = .ok (.iconst 0, 1) := by decide +kernel
theorem d_270_31 : decode (mth 270).2.1 31 = .ok (.istore_n 3, 1) := by decide +kernel
theorem d_270_32 : decode (mth 270).2.1 32 = .ok (.iconst 0, 1) := by decide +kernel
theorem d_270_33 : decode (mth 270).2.1 33 = .ok (.istore 4, 2) := by decide +kernel
theorem d_270_35 : decode (mth 270).2.1 35 = .ok (.iload 4, 2) := by decide +kernel
theorem d_270_37 : decode (mth 270).2.1 37 = .ok (.iload_n 1, 1) := by decide +kernel
theorem d_270_38 : decode (mth 270).2.1 38 = .ok (.if_icmp .ge 65, 3) := by decide +kernel
theorem d_270_41 : decode (mth 270).2.1 41 = .ok (.iconst 0, 1) := by decide +kernel
theorem d_270_42 : decode (mth 270).2.1 42 = .ok (.istore 5, 2) := by decide +kernel
theorem d_270_44 : decode (mth 270).2.1 44 = .ok (.aload_n 0, 1) := by decide +kernel
theorem d_270_45 : decode (mth 270).2.1 45 = .ok (.invokevirtual 128, 3) := by decide +kernel
theorem d_270_48 : decode (mth 270).2.1 48 = .ok (.ifCond .ne 15, 3) := by decide +kernel
theorem d_270_51 : decode (mth 270).2.1 51 = .ok (.iload 5, 2) := by decide +kernel
theorem d_270_53 : decode (mth 270).2.1 53 = .ok (.aload_n 0, 1) := by decide +kernel
theorem d_270_54 : decode (mth 270).2.1 54 = .ok (.invokevirtual 379, 3) := by decide +kernel
theorem d_270_57 : decode (mth 270).2.1 57 = .ok (.iadd, 1) := by decide +kernel
theorem d_270_58 : decode (mth 270).2.1 58 = .ok (.istore 5, 2) := by decide +kernel
theorem d_270_60 : decode (mth 270).2.1 60 = .ok (.goto (-16), 3) := by decide +kernel
theorem d_270_63 : decode (mth 270).2.1 63 = .ok (.iload_n 3, 1) := by decide +kernel
theorem d_270_64 : decode (mth 270).2.1 64 = .ok (.iload 5, 2) := by decide +kernel
theorem d_270_66 : decode (mth 270).2.1 66 = .ok (.iload_n 2, 1) := by decide +kernel
theorem d_270_67 : decode (mth 270).2.1 67 = .ok (.if_icmp .lt 7, 3) := by decide +kernel
theorem d_270_70 : decode (mth 270).2.1 70 = .ok (.iconst 1, 1) := by decide +kernel
theorem d_270_71 : decode (mth 270).2.1 71 = .ok (.goto 4, 3) := by decide +kernel
theorem d_270_74 : decode (mth 270).2.1 74 = .ok (.iconst 0, 1) := by decide +kernel
theorem d_270_75 : decode (mth 270).2.1 75 = .ok (.iadd, 1) := by decide +kernel
theorem d_270_76 : decode (mth 270).2.1 76 = .ok (.istore_n 3, 1) := by decide +kernel
theorem d_270_77 : decode (mth 270).2.1 77 = .ok (.aload_n 0, 1) := by decide +kernel
theorem d_270_78 : decode (mth 270).2.1 78 = .ok (.getfield 7, 3) := by decide +kernel
theorem d_270_81 : decode (mth 270).2.1 81 = .ok (.iconst 4, 1) := by decide +kernel
theorem d_270_82 : decode (mth 270).2.1 82 = .ok (.iaload, 1) := by decide +kernel
theorem d_270_83 : decode (mth 270).2.1 83 = .ok (.istore 6, 2) := by decide +kernel
theorem d_270_85 : decode (mth 270).2.1 85 = .ok (.aload_n 0, 1) := by decide +kernel
theorem d_270_86 : decode (mth 270).2.1 86 = .ok (.invokevirtual 66, 3) := by decide +kernel
theorem d_270_89 : decode (mth 270).2.1 89 = .ok (.aload_n 0, 1) := by decide +kernel
theorem d_270_90 : decode (mth 270).2.1 90 = .ok (.getfield 7, 3) := by decide +kernel
theorem d_270_93 : decode (mth 270).2.1 93 = .ok (.iconst 4, 1) := by decide +kernel
theorem d_270_94 : decode (mth 270).2.1 94 = .ok (.iload 6, 2) := by decide +kernel
theorem d_270_96 : decode (mth 270).2.1 96 = .ok (.iastore, 1) := by decide +kernel
theorem d_270_97 : decode (mth 270).2.1 97 = .ok (.iinc 4 1, 3) := by decide +kernel
theorem d_270_100 : decode (mth 270).2.1 100 = .ok (.goto (-65), 3) := by decide +kernel
theorem d_270_103 : decode (mth 270).2.1 103 = .ok (.aload_n 0, 1) := by decide +kernel
theorem d_270_104 : decode (mth 270).2.1 104 = .ok (.invokevirtual 294, 3) := by decide +kernel
theorem d_270_107 : decode (mth 270).2.1 107 = .ok (.iload_n 3, 1) := by decide +kernel
theorem d_270_108 : decode (mth 270).2.1 108 = .ok (.ireturn, 1) := by decide +kernel
/-! 271 PlayedTruthModel.prove(I)I -/
theorem d_271_0 : decode (mth 271).2.1 0 = .ok (.iload_n 1, 1) := by decide +kernel
theorem d_271_1 : decode (mth 271).2.1 1 = .ok (.invokestatic 341, 3) := by decide +kernel
theorem d_271_4 : decode (mth 271).2.1 4 = .ok (.ifCond .ne 5, 3) := by decide +kernel
theorem d_271_7 : decode (mth 271).2.1 7 = .ok (.iconst (-1), 1) := by decide +kernel
theorem d_271_8 : decode (mth 271).2.1 8 = .ok (.ireturn, 1) := by decide +kernel
theorem d_271_9 : decode (mth 271).2.1 9 = .ok (.aload_n 0, 1) := by decide +kernel
theorem d_271_10 : decode (mth 271).2.1 10 = .ok (.iload_n 1, 1) := by decide +kernel
theorem d_271_11 : decode (mth 271).2.1 11 = .ok (.invokevirtual 344, 3) := by decide +kernel
theorem d_271_14 : decode (mth 271).2.1 14 = .ok (.aload_n 0, 1) := by decide +kernel
theorem d_271_15 : decode (mth 271).2.1 15 = .ok (.aload_n 0, 1) := by decide +kernel
theorem d_271_16 : decode (mth 271).2.1 16 = .ok (.iload_n 1, 1) := by decide +kernel
theorem d_271_17 : decode (mth 271).2.1 17 = .ok (.invokevirtual 322, 3) := by decide +kernel
theorem d_271_20 : decode (mth 271).2.1 20 = .ok (.putfield 384, 3) := by decide +kernel
theorem d_271_23 : decode (mth 271).2.1 23 = .ok (.aload_n 0, 1) := by decide +kernel
theorem d_271_24 : decode (mth 271).2.1 24 = .ok (.aload_n 0, 1) := by decide +kernel
theorem d_271_25 : decode (mth 271).2.1 25 = .ok (.getfield 335, 3) := by decide +kernel
theorem d_271_28 : decode (mth 271).2.1 28 = .ok (.aload_n 0, 1) := by decide +kernel
theorem d_271_29 : decode (mth 271).2.1 29 = .ok (.getfield 384, 3) := by decide +kernel
theorem d_271_32 : decode (mth 271).2.1 32 = .ok (.invokevirtual 331, 3) := by decide +kernel
theorem d_271_35 : decode (mth 271).2.1 35 = .ok (.aload_n 0, 1) := by decide +kernel
theorem d_271_36 : decode (mth 271).2.1 36 = .ok (.invokevirtual 288, 3) := by decide +kernel
theorem d_271_39 : decode (mth 271).2.1 39 = .ok (.iconst 0, 1) := by decide +kernel
theorem d_271_40 : decode (mth 271).2.1 40 = .ok (.istore_n 2, 1) := by decide +kernel
theorem d_271_41 : decode (mth 271).2.1 41 = .ok (.iload_n 2, 1) := by decide +kernel
theorem d_271_42 : decode (mth 271).2.1 42 = .ok (.aload_n 0, 1) := by decide +kernel
theorem d_271_43 : decode (mth 271).2.1 43 = .ok (.getfield 384, 3) := by decide +kernel
theorem d_271_46 : decode (mth 271).2.1 46 = .ok (.if_icmp .ge 57, 3) := by decide +kernel
theorem d_271_49 : decode (mth 271).2.1 49 = .ok (.aload_n 0, 1) := by decide +kernel
theorem d_271_50 : decode (mth 271).2.1 50 = .ok (.getfield 34, 3) := by decide +kernel
theorem d_271_53 : decode (mth 271).2.1 53 = .ok (.iconst 3, 1) := by decide +kernel
theorem d_271_54 : decode (mth 271).2.1 54 = .ok (.iload_n 2, 1) := by decide +kernel
theorem d_271_55 : decode (mth 271).2.1 55 = .ok (.imul, 1) := by decide +kernel
theorem d_271_56 : decode (mth 271).2.1 56 = .ok (.aload_n 0, 1) := by decide +kernel
theorem d_271_57 : decode (mth 271).2.1 57 = .ok (.getfield 31, 3) := by decide +kernel
theorem d_271_60 : decode (mth 271).2.1 60 = .ok (.iload_n 2, 1) := by decide +kernel
theorem d_271_61 : decode (mth 271).2.1 61 = .ok (.iaload, 1) := by decide +kernel
theorem d_271_62 : decode (mth 271).2.1 62 = .ok (.iastore, 1) := by decide +kernel
theorem d_271_63 : decode (mth 271).2.1 63 = .ok (.aload_n 0, 1) := by decide +kernel
theorem d_271_64 : decode (mth 271).2.1 64 = .ok (.getfield 34, 3) := by decide +kernel
theorem d_271_67 : decode (mth 271).2.1 67 = .ok (.iconst 3, 1) := by decide +kernel
theorem d_271_68 : decode (mth 271).2.1 68 = .ok (.iload_n 2, 1) := by decide +kernel
theorem d_271_69 : decode (mth 271).2.1 69 = .ok (.imul, 1) := by decide +kernel
theorem d_271_70 : decode (mth 271).2.1 70 = .ok (.iconst 1, 1) := by decide +kernel
theorem d_271_71 : decode (mth 271).2.1 71 = .ok (.iadd, 1) := by decide +kernel
theorem d_271_72 : decode (mth 271).2.1 72 = .ok (.aload_n 0, 1) := by decide +kernel
theorem d_271_73 : decode (mth 271).2.1 73 = .ok (.aload_n 0, 1) := by decide +kernel
theorem d_271_74 : decode (mth 271).2.1 74 = .ok (.getfield 31, 3) := by decide +kernel
theorem d_271_77 : decode (mth 271).2.1 77 = .ok (.iload_n 2, 1) := by decide +kernel
theorem d_271_78 : decode (mth 271).2.1 78 = .ok (.iaload, 1) := by decide +kernel
theorem d_271_79 : decode (mth 271).2.1 79 = .ok (.invokevirtual 135, 3) := by decide +kernel
theorem d_271_82 : decode (mth 271).2.1 82 = .ok (.iastore, 1) := by decide +kernel
theorem d_271_83 : decode (mth 271).2.1 83 = .ok (.aload_n 0, 1) := by decide +kernel
theorem d_271_84 : decode (mth 271).2.1 84 = .ok (.getfield 34, 3) := by decide +kernel
theorem d_271_87 : decode (mth 271).2.1 87 = .ok (.iconst 3, 1) := by decide +kernel
theorem d_271_88 : decode (mth 271).2.1 88 = .ok (.iload_n 2, 1) := by decide +kernel
theorem d_271_89 : decode (mth 271).2.1 89 = .ok (.imul, 1) := by decide +kernel
theorem d_271_90 : decode (mth 271).2.1 90 = .ok (.iconst 2, 1) := by decide +kernel
theorem d_271_91 : decode (mth 271).2.1 91 = .ok (.iadd, 1) := by decide +kernel
theorem d_271_92 : decode (mth 271).2.1 92 = .ok (.aload_n 0, 1) := by decide +kernel
theorem d_271_93 : decode (mth 271).2.1 93 = .ok (.invokevirtual 154, 3) := by decide +kernel
theorem d_271_96 : decode (mth 271).2.1 96 = .ok (.iastore, 1) := by decide +kernel
theorem d_271_97 : decode (mth 271).2.1 97 = .ok (.iinc 2 1, 3) := by decide +kernel
theorem d_271_100 : decode (mth 271).2.1 100 = .ok (.goto (-59), 3) := by decide +kernel
theorem d_271_103 : decode (mth 271).2.1 103 = .ok (.aload_n 0, 1) := by decide +kernel
theorem d_271_104 : decode (mth 271).2.1 104 = .ok (.invokevirtual 294, 3) := by decide +kernel
theorem d_271_107 : decode (mth 271).2.1 107 = .ok (.aload_n 0, 1) := by decide +kernel
theorem d_271_108 : decode (mth 271).2.1 108 = .ok (.getfield 384, 3) := by decide +kernel
theorem d_271_111 : decode (mth 271).2.1 111 = .ok (.ireturn, 1) := by decide +kernel
/-! 272 PlayedTruthModel.row(II)I -/
theorem d_272_0 : decode (mth 272).2.1 0 = .ok (.iload_n 1, 1) := by decide +kernel
theorem d_272_1 : decode (mth 272).2.1 1 = .ok (.i2l, 1) := by decide +kernel
theorem d_272_2 : decode (mth 272).2.1 2 = .ok (.lconst 0, 1) := by decide +kernel
theorem d_272_3 : decode (mth 272).2.1 3 = .ok (.aload_n 0, 1) := by decide +kernel
theorem d_272_4 : decode (mth 272).2.1 4 = .ok (.getfield 384, 3) := by decide +kernel
theorem d_272_7 : decode (mth 272).2.1 7 = .ok (.iconst 1, 1) := by decide +kernel
theorem d_272_8 : decode (mth 272).2.1 8 = .ok (.isub, 1) := by decide +kernel
theorem d_272_9 : decode (mth 272).2.1 9 = .ok (.i2l, 1) := by decide +kernel
theorem d_272_10 : decode (mth 272).2.1 10 = .ok (.invokestatic 58, 3) := by decide +kernel
theorem d_272_13 : decode (mth 272).2.1 13 = .ok (.ifCond .eq 28, 3) := by decide +kernel
theorem d_272_16 : decode (mth 272).2.1 16 = .ok (.iload_n 2, 1) := by decide +kernel
theorem d_272_17 : decode (mth 272).2.1 17 = .ok (.i2l, 1) := by decide +kernel
theorem d_272_18 : decode (mth 272).2.1 18 = .ok (.lconst 0, 1) := by decide +kernel
theorem d_272_19 : decode (mth 272).2.1 19 = .ok (.ldc2_w 387, 3) := by decide +kernel
theorem d_272_22 : decode (mth 272).2.1 22 = .ok (.invokestatic 58, 3) := by decide +kernel
theorem d_272_25 : decode (mth 272).2.1 25 = .ok (.ifCond .eq 16, 3) := by decide +kernel
theorem d_272_28 : decode (mth 272).2.1 28 = .ok (.aload_n 0, 1) := by decide +kernel
theorem d_272_29 : decode (mth 272).2.1 29 = .ok (.getfield 34, 3) := by decide +kernel
theorem d_272_32 : decode (mth 272).2.1 32 = .ok (.iconst 3, 1) := by decide +kernel
theorem d_272_33 : decode (mth 272).2.1 33 = .ok (.iload_n 1, 1) := by decide +kernel
theorem d_272_34 : decode (mth 272).2.1 34 = .ok (.imul, 1) := by decide +kernel
theorem d_272_35 : decode (mth 272).2.1 35 = .ok (.iload_n 2, 1) := by decide +kernel
theorem d_272_36 : decode (mth 272).2.1 36 = .ok (.iadd, 1) := by decide +kernel
theorem d_272_37 : decode (mth 272).2.1 37 = .ok (.iaload, 1) := by decide +kernel
theorem d_272_38 : decode (mth 272).2.1 38 = .ok (.goto 5, 3) := by decide +kernel
theorem d_272_41 : decode (mth 272).2.1 41 = .ok (.bipush (-9), 2) := by decide +kernel
theorem d_272_43 : decode (mth 272).2.1 43 = .ok (.ireturn, 1) := by decide +kernel
/-! 273 PlayedTruthModel.alterRow(III)I -/
theorem d_273_0 : decode (mth 273).2.1 0 = .ok (.iload_n 1, 1) := by decide +kernel
theorem d_273_1 : decode (mth 273).2.1 1 = .ok (.i2l, 1) := by decide +kernel
theorem d_273_2 : decode (mth 273).2.1 2 = .ok (.lconst 0, 1) := by decide +kernel
theorem d_273_3 : decode (mth 273).2.1 3 = .ok (.aload_n 0, 1) := by decide +kernel
theorem d_273_4 : decode (mth 273).2.1 4 = .ok (.getfield 384, 3) := by decide +kernel
theorem d_273_7 : decode (mth 273).2.1 7 = .ok (.iconst 1, 1) := by decide +kernel
theorem d_273_8 : decode (mth 273).2.1 8 = .ok (.isub, 1) := by decide +kernel
theorem d_273_9 : decode (mth 273).2.1 9 = .ok (.i2l, 1) := by decide +kernel
theorem d_273_10 : decode (mth 273).2.1 10 = .ok (.invokestatic 58, 3) := by decide +kernel
theorem d_273_13 : decode (mth 273).2.1 13 = .ok (.ifCond .eq 15, 3) := by decide +kernel
theorem d_273_16 : decode (mth 273).2.1 16 = .ok (.iload_n 2, 1) := by decide +kernel
theorem d_273_17 : decode (mth 273).2.1 17 = .ok (.i2l, 1) := by decide +kernel
theorem d_273_18 : decode (mth 273).2.1 18 = .ok (.lconst 0, 1) := by decide +kernel
theorem d_273_19 : decode (mth 273).2.1 19 = .ok (.ldc2_w 387, 3) := by decide +kernel
theorem d_273_22 : decode (mth 273).2.1 22 = .ok (.invokestatic 58, 3) := by decide +kernel
theorem d_273_25 : decode (mth 273).2.1 25 = .ok (.ifCond .ne 6, 3) := by decide +kernel
theorem d_273_28 : decode (mth 273).2.1 28 = .ok (.bipush (-9), 2) := by decide +kernel
theorem d_273_30 : decode (mth 273).2.1 30 = .ok (.ireturn, 1) := by decide +kernel
theorem d_273_31 : decode (mth 273).2.1 31 = .ok (.aload_n 0, 1) := by decide +kernel
theorem d_273_32 : decode (mth 273).2.1 32 = .ok (.getfield 34, 3) := by decide +kernel
theorem d_273_35 : decode (mth 273).2.1 35 = .ok (.iconst 3, 1) := by decide +kernel
theorem d_273_36 : decode (mth 273).2.1 36 = .ok (.iload_n 1, 1) := by decide +kernel
theorem d_273_37 : decode (mth 273).2.1 37 = .ok (.imul, 1) := by decide +kernel
theorem d_273_38 : decode (mth 273).2.1 38 = .ok (.iload_n 2, 1) := by decide +kernel
theorem d_273_39 : decode (mth 273).2.1 39 = .ok (.iadd, 1) := by decide +kernel
theorem d_273_40 : decode (mth 273).2.1 40 = .ok (.iaload, 1) := by decide +kernel
theorem d_273_41 : decode (mth 273).2.1 41 = .ok (.istore 4, 2) := by decide +kernel
theorem d_273_43 : decode (mth 273).2.1 43 = .ok (.aload_n 0, 1) := by decide +kernel
theorem d_273_44 : decode (mth 273).2.1 44 = .ok (.getfield 34, 3) := by decide +kernel
theorem d_273_47 : decode (mth 273).2.1 47 = .ok (.iconst 3, 1) := by decide +kernel
theorem d_273_48 : decode (mth 273).2.1 48 = .ok (.iload_n 1, 1) := by decide +kernel
theorem d_273_49 : decode (mth 273).2.1 49 = .ok (.imul, 1) := by decide +kernel
theorem d_273_50 : decode (mth 273).2.1 50 = .ok (.iload_n 2, 1) := by decide +kernel
theorem d_273_51 : decode (mth 273).2.1 51 = .ok (.iadd, 1) := by decide +kernel
theorem d_273_52 : decode (mth 273).2.1 52 = .ok (.iload_n 3, 1) := by decide +kernel
theorem d_273_53 : decode (mth 273).2.1 53 = .ok (.iastore, 1) := by decide +kernel
theorem d_273_54 : decode (mth 273).2.1 54 = .ok (.iload 4, 2) := by decide +kernel
theorem d_273_56 : decode (mth 273).2.1 56 = .ok (.ireturn, 1) := by decide +kernel
/-! 274 PlayedTruthModel.judge()I -/
theorem d_274_0 : decode (mth 274).2.1 0 = .ok (.iconst 0, 1) := by decide +kernel
theorem d_274_1 : decode (mth 274).2.1 1 = .ok (.istore_n 1, 1) := by decide +kernel
theorem d_274_2 : decode (mth 274).2.1 2 = .ok (.aload_n 0, 1) := by decide +kernel
theorem d_274_3 : decode (mth 274).2.1 3 = .ok (.invokevirtual 288, 3) := by decide +kernel
theorem d_274_6 : decode (mth 274).2.1 6 = .ok (.iconst 0, 1) := by decide +kernel
theorem d_274_7 : decode (mth 274).2.1 7 = .ok (.istore_n 2, 1) := by decide +kernel
theorem d_274_8 : decode (mth 274).2.1 8 = .ok (.iload_n 2, 1) := by decide +kernel
theorem d_274_9 : decode (mth 274).2.1 9 = .ok (.aload_n 0, 1) := by decide +kernel
theorem d_274_10 : decode (mth 274).2.1 10 = .ok (.getfield 384, 3) := by decide +kernel
theorem d_274_13 : decode (mth 274).2.1 13 = .ok (.if_icmp .ge 103, 3) := by decide +kernel
theorem d_274_16 : decode (mth 274).2.1 16 = .ok (.iload_n 1, 1) := by decide +kernel
theorem d_274_17 : decode (mth 274).2.1 17 = .ok (.ifCond .ne 99, 3) := by decide +kernel
theorem d_274_20 : decode (mth 274).2.1 20 = .ok (.aload_n 0, 1) := by decide +kernel
theorem d_274_21 : decode (mth 274).2.1 21 = .ok (.getfield 34, 3) := by decide +kernel
theorem d_274_24 : decode (mth 274).2.1 24 = .ok (.iconst 3, 1) := by decide +kernel
theorem d_274_25 : decode (mth 274).2.1 25 = .ok (.iload_n 2, 1) := by decide +kernel
theorem d_274_26 : decode (mth 274).2.1 26 = .ok (.imul, 1) := by decide +kernel
theorem d_274_27 : decode (mth 274).2.1 27 = .ok (.iaload, 1) := by decide +kernel
theorem d_274_28 : decode (mth 274).2.1 28 = .ok (.i2l, 1) := by decide +kernel
theorem d_274_29 : decode (mth 274).2.1 29 = .ok (.lconst 0, 1) := by decide +kernel
theorem d_274_30 : decode (mth 274).2.1 30 = .ok (.aload_n 0, 1) := by decide +kernel
theorem d_274_31 : decode (mth 274).2.1 31 = .ok (.getfield 7, 3) := by decide +kernel
theorem d_274_34 : decode (mth 274).2.1 34 = .ok (.iconst 0, 1) := by decide +kernel
theorem d_274_35 : decode (mth 274).2.1 35 = .ok (.iaload, 1) := by decide +kernel
theorem d_274_36 : decode (mth 274).2.1 36 = .ok (.i2l, 1) := by decide +kernel
theorem d_274_37 : decode (mth 274).2.1 37 = .ok (.invokestatic 58, 3) := by decide +kernel
theorem d_274_40 : decode (mth 274).2.1 40 = .ok (.ifCond .eq 56, 3) := by decide +kernel
theorem d_274_43 : decode (mth 274).2.1 43 = .ok (.aload_n 0, 1) := by decide +kernel
theorem d_274_44 : decode (mth 274).2.1 44 = .ok (.invokevirtual 128, 3) := by decide +kernel
theorem d_274_47 : decode (mth 274).2.1 47 = .ok (.ifCond .ne 49, 3) := by decide +kernel
theorem d_274_50 : decode (mth 274).2.1 50 = .ok (.aload_n 0, 1) := by decide +kernel
theorem d_274_51 : decode (mth 274).2.1 51 = .ok (.aload_n 0, 1) := by decide +kernel
theorem d_274_52 : decode (mth 274).2.1 52 = .ok (.getfield 34, 3) := by decide +kernel
theorem d_274_55 : decode (mth 274).2.1 55 = .ok (.iconst 3, 1) := by decide +kernel
theorem d_274_56 : decode (mth 274).2.1 56 = .ok (.iload_n 2, 1) := by decide +kernel
theorem d_274_57 : decode (mth 274).2.1 57 = .ok (.imul, 1) := by decide +kernel
theorem d_274_58 : decode (mth 274).2.1 58 = .ok (.iaload, 1) := by decide +kernel
theorem d_274_59 : decode (mth 274).2.1 59 = .ok (.invokevirtual 135, 3) := by decide +kernel
theorem d_274_62 : decode (mth 274).2.1 62 = .ok (.aload_n 0, 1) := by decide +kernel
theorem d_274_63 : decode (mth 274).2.1 63 = .ok (.getfield 34, 3) := by decide +kernel
theorem d_274_66 : decode (mth 274).2.1 66 = .ok (.iconst 3, 1) := by decide +kernel
theorem d_274_67 : decode (mth 274).2.1 67 = .ok (.iload_n 2, 1) := by decide +kernel
theorem d_274_68 : decode (mth 274).2.1 68 = .ok (.imul, 1) := by decide +kernel
theorem d_274_69 : decode (mth 274).2.1 69 = .ok (.iconst 1, 1) := by decide +kernel
theorem d_274_70 : decode (mth 274).2.1 70 = .ok (.iadd, 1) := by decide +kernel
theorem d_274_71 : decode (mth 274).2.1 71 = .ok (.iaload, 1) := by decide +kernel
theorem d_274_72 : decode (mth 274).2.1 72 = .ok (.if_icmp .ne 24, 3) := by decide +kernel
theorem d_274_75 : decode (mth 274).2.1 75 = .ok (.aload_n 0, 1) := by decide +kernel
theorem d_274_76 : decode (mth 274).2.1 76 = .ok (.invokevirtual 154, 3) := by decide +kernel
theorem d_274_79 : decode (mth 274).2.1 79 = .ok (.aload_n 0, 1) := by decide +kernel
theorem d_274_80 : decode (mth 274).2.1 80 = .ok (.getfield 34, 3) := by decide +kernel
theorem d_274_83 : decode (mth 274).2.1 83 = .ok (.iconst 3, 1) := by decide +kernel
theorem d_274_84 : decode (mth 274).2.1 84 = .ok (.iload_n 2, 1) := by decide +kernel
theorem d_274_85 : decode (mth 274).2.1 85 = .ok (.imul, 1) := by decide +kernel
theorem d_274_86 : decode (mth 274).2.1 86 = .ok (.iconst 2, 1) := by decide +kernel
theorem d_274_87 : decode (mth 274).2.1 87 = .ok (.iadd, 1) := by decide +kernel
theorem d_274_88 : decode (mth 274).2.1 88 = .ok (.iaload, 1) := by decide +kernel
theorem d_274_89 : decode (mth 274).2.1 89 = .ok (.if_icmp .ne 7, 3) := by decide +kernel
theorem d_274_92 : decode (mth 274).2.1 92 = .ok (.iconst 1, 1) := by decide +kernel
theorem d_274_93 : decode (mth 274).2.1 93 = .ok (.goto 4, 3) := by decide +kernel
theorem d_274_96 : decode (mth 274).2.1 96 = .ok (.iconst 0, 1) := by decide +kernel
theorem d_274_97 : decode (mth 274).2.1 97 = .ok (.istore_n 3, 1) := by decide +kernel
theorem d_274_98 : decode (mth 274).2.1 98 = .ok (.iload_n 3, 1) := by decide +kernel
theorem d_274_99 : decode (mth 274).2.1 99 = .ok (.ifCond .eq 7, 3) := by decide +kernel
theorem d_274_102 : decode (mth 274).2.1 102 = .ok (.iconst 0, 1) := by decide +kernel
theorem d_274_103 : decode (mth 274).2.1 103 = .ok (.goto 6, 3) := by decide +kernel
theorem d_274_106 : decode (mth 274).2.1 106 = .ok (.iload_n 2, 1) := by decide +kernel
theorem d_274_107 : decode (mth 274).2.1 107 = .ok (.iconst 1, 1) := by decide +kernel
theorem d_274_108 : decode (mth 274).2.1 108 = .ok (.iadd, 1) := by decide +kernel
theorem d_274_109 : decode (mth 274).2.1 109 = .ok (.istore_n 1, 1) := by decide +kernel
theorem d_274_110 : decode (mth 274).2.1 110 = .ok (.iinc 2 1, 3) := by decide +kernel
theorem d_274_113 : decode (mth 274).2.1 113 = .ok (.goto (-105), 3) := by decide +kernel
theorem d_274_116 : decode (mth 274).2.1 116 = .ok (.aload_n 0, 1) := by decide +kernel
theorem d_274_117 : decode (mth 274).2.1 117 = .ok (.invokevirtual 294, 3) := by decide +kernel
theorem d_274_120 : decode (mth 274).2.1 120 = .ok (.iload_n 1, 1) := by decide +kernel
theorem d_274_121 : decode (mth 274).2.1 121 = .ok (.ireturn, 1) := by decide +kernel
/-! 275 PlayedTruthModel.sheet(III)I -/
theorem d_275_0 : decode (mth 275).2.1 0 = .ok (.iload_n 1, 1) := by decide +kernel
theorem d_275_1 : decode (mth 275).2.1 1 = .ok (.invokestatic 389, 3) := by decide +kernel
theorem d_275_4 : decode (mth 275).2.1 4 = .ok (.ifCond .eq 27, 3) := by decide +kernel
theorem d_275_7 : decode (mth 275).2.1 7 = .ok (.iload_n 2, 1) := by decide +kernel
theorem d_275_8 : decode (mth 275).2.1 8 = .ok (.i2l, 1) := by decide +kernel
theorem d_275_9 : decode (mth 275).2.1 9 = .ok (.ldc2_w 188, 3) := by decide +kernel
theorem d_275_12 : decode (mth 275).2.1 12 = .ok (.ldc2_w 320, 3) := by decide +kernel
theorem d_275_15 : decode (mth 275).2.1 15 = .ok (.invokestatic 58, 3) := by decide +kernel
theorem d_275_18 : decode (mth 275).2.1 18 = .ok (.ifCond .eq 13, 3) := by decide +kernel
theorem d_275_21 : decode (mth 275).2.1 21 = .ok (.iload_n 2, 1) := by decide +kernel
theorem d_275_22 : decode (mth 275).2.1 22 = .ok (.ifCond .lt 11, 3) := by decide +kernel
theorem d_275_25 : decode (mth 275).2.1 25 = .ok (.iload_n 3, 1) := by decide +kernel
theorem d_275_26 : decode (mth 275).2.1 26 = .ok (.bipush 40, 2) := by decide +kernel
theorem d_275_28 : decode (mth 275).2.1 28 = .ok (.if_icmp .le 5, 3) := by decide +kernel
theorem d_275_31 : decode (mth 275).2.1 31 = .ok (.iconst (-1), 1) := by decide +kernel
theorem d_275_32 : decode (mth 275).2.1 32 = .ok (.ireturn, 1) := by decide +kernel
theorem d_275_33 : decode (mth 275).2.1 33 = .ok (.iload_n 2, 1) := by decide +kernel
theorem d_275_34 : decode (mth 275).2.1 34 = .ok (.ifCond .lt 10, 3) := by decide +kernel
theorem d_275_37 : decode (mth 275).2.1 37 = .ok (.iload_n 3, 1) := by decide +kernel
theorem d_275_38 : decode (mth 275).2.1 38 = .ok (.ifCond .ge 6, 3) := by decide +kernel
theorem d_275_41 : decode (mth 275).2.1 41 = .ok (.bipush (-14), 2) := by decide +kernel
theorem d_275_43 : decode (mth 275).2.1 43 = .ok (.ireturn, 1) := by decide +kernel
theorem d_275_44 : decode (mth 275).2.1 44 = .ok (.aload_n 0, 1) := by decide +kernel
theorem d_275_45 : decode (mth 275).2.1 45 = .ok (.getfield 37, 3) := by decide +kernel
theorem d_275_48 : decode (mth 275).2.1 48 = .ok (.iload_n 1, 1) := by decide +kernel
theorem d_275_49 : decode (mth 275).2.1 49 = .ok (.iload_n 2, 1) := by decide +kernel
theorem d_275_50 : decode (mth 275).2.1 50 = .ok (.iconst 1, 1) := by decide +kernel
theorem d_275_51 : decode (mth 275).2.1 51 = .ok (.iadd, 1) := by decide +kernel
theorem d_275_52 : decode (mth 275).2.1 52 = .ok (.iastore, 1) := by decide +kernel
theorem d_275_53 : decode (mth 275).2.1 53 = .ok (.aload_n 0, 1) := by decide +kernel
theorem d_275_54 : decode (mth 275).2.1 54 = .ok (.getfield 40, 3) := by decide +kernel
theorem d_275_57 : decode (mth 275).2.1 57 = .ok (.iload_n 1, 1) := by decide +kernel
theorem d_275_58 : decode (mth 275).2.1 58 = .ok (.iload_n 2, 1) := by decide +kernel
theorem d_275_59 : decode (mth 275).2.1 59 = .ok (.ifCond .ge 7, 3) := by decide +kernel
theorem d_275_62 : decode (mth 275).2.1 62 = .ok (.iconst 0, 1) := by decide +kernel
theorem d_275_63 : decode (mth 275).2.1 63 = .ok (.goto 4, 3) := by decide +kernel
theorem d_275_66 : decode (mth 275).2.1 66 = .ok (.iload_n 3, 1) := by decide +kernel
theorem d_275_67 : decode (mth 275).2.1 67 = .ok (.iastore, 1) := by decide +kernel
theorem d_275_68 : decode (mth 275).2.1 68 = .ok (.iconst 0, 1) := by decide +kernel
theorem d_275_69 : decode (mth 275).2.1 69 = .ok (.istore 4, 2) := by decide +kernel
theorem d_275_71 : decode (mth 275).2.1 71 = .ok (.iload 4, 2) := by decide +kernel
theorem d_275_73 : decode (mth 275).2.1 73 = .ok (.bipush 40, 2) := by decide +kernel
theorem d_275_75 : decode (mth 275).2.1 75 = .ok (.if_icmp .ge 22, 3) := by decide +kernel
theorem d_275_78 : decode (mth 275).2.1 78 = .ok (.aload_n 0, 1) := by decide +kernel
theorem d_275_79 : decode (mth 275).2.1 79 = .ok (.getfield 43, 3) := by decide +kernel
theorem d_275_82 : decode (mth 275).2.1 82 = .ok (.bipush 40, 2) := by decide +kernel
theorem d_275_84 : decode (mth 275).2.1 84 = .ok (.iload_n 1, 1) := by decide +kernel
theorem d_275_85 : decode (mth 275).2.1 85 = .ok (.imul, 1) := by decide +kernel
theorem d_275_86 : decode (mth 275).2.1 86 = .ok (.iload 4, 2) := by decide +kernel
theorem d_275_88 : decode (mth 275).2.1 88 = .ok (.iadd, 1) := by decide +kernel
theorem d_275_89 : decode (mth 275).2.1 89 = .ok (.iconst 0, 1) := by decide +kernel
theorem d_275_90 : decode (mth 275).2.1 90 = .ok (.iastore, 1) := by decide +kernel
theorem d_275_91 : decode (mth 275).2.1 91 = .ok (.iinc 4 1, 3) := by decide +kernel
theorem d_275_94 : decode (mth 275).2.1 94 = .ok (.goto (-23), 3) := by decide +kernel
theorem d_275_97 : decode (mth 275).2.1 97 = .ok (.iconst 1, 1) := by decide +kernel
theorem d_275_98 : decode (mth 275).2.1 98 = .ok (.ireturn, 1) := by decide +kernel
/-! 276 PlayedTruthModel.isSheet(I)Z -/
theorem d_276_0 : decode (mth 276).2.1 0 = .ok (.iload_n 0, 1) := by decide +kernel
theorem d_276_1 : decode (mth 276).2.1 1 = .ok (.i2l, 1) := by decide +kernel
theorem d_276_2 : decode (mth 276).2.1 2 = .ok (.lconst 0, 1) := by decide +kernel
theorem d_276_3 : decode (mth 276).2.1 3 = .ok (.ldc2_w 347, 3) := by decide +kernel
theorem d_276_6 : decode (mth 276).2.1 6 = .ok (.invokestatic 58, 3) := by decide +kernel
theorem d_276_9 : decode (mth 276).2.1 9 = .ok (.ireturn, 1) := by decide +kernel
/-! 277 PlayedTruthModel.write(III)I -/
theorem d_277_0 : decode (mth 277).2.1 0 = .ok (.iload_n 1, 1) := by decide +kernel
theorem d_277_1 : decode (mth 277).2.1 1 = .ok (.invokestatic 389, 3) := by decide +kernel
theorem d_277_4 : decode (mth 277).2.1 4 = .ok (.ifCond .ne 5, 3) := by decide +kernel
theorem d_277_7 : decode (mth 277).2.1 7 = .ok (.iconst (-1), 1) := by decide +kernel
theorem d_277_8 : decode (mth 277).2.1 8 = .ok (.ireturn, 1) := by decide +kernel
theorem d_277_9 : decode (mth 277).2.1 9 = .ok (.aload_n 0, 1) := by decide +kernel
theorem d_277_10 : decode (mth 277).2.1 10 = .ok (.getfield 37, 3) := by decide +kernel
theorem d_277_13 : decode (mth 277).2.1 13 = .ok (.iload_n 1, 1) := by decide +kernel
theorem d_277_14 : decode (mth 277).2.1 14 = .ok (.iaload, 1) := by decide +kernel
theorem d_277_15 : decode (mth 277).2.1 15 = .ok (.ifCond .ne 6, 3) := by decide +kernel
theorem d_277_18 : decode (mth 277).2.1 18 = .ok (.bipush (-11), 2) := by decide +kernel
theorem d_277_20 : decode (mth 277).2.1 20 = .ok (.ireturn, 1) := by decide +kernel
theorem d_277_21 : decode (mth 277).2.1 21 = .ok (.iload_n 2, 1) := by decide +kernel
theorem d_277_22 : decode (mth 277).2.1 22 = .ok (.i2l, 1) := by decide +kernel
theorem d_277_23 : decode (mth 277).2.1 23 = .ok (.lconst 0, 1) := by decide +kernel
theorem d_277_24 : decode (mth 277).2.1 24 = .ok (.aload_n 0, 1) := by decide +kernel
theorem d_277_25 : decode (mth 277).2.1 25 = .ok (.getfield 40, 3) := by decide +kernel
theorem d_277_28 : decode (mth 277).2.1 28 = .ok (.iload_n 1, 1) := by decide +kernel
theorem d_277_29 : decode (mth 277).2.1 29 = .ok (.iaload, 1) := by decide +kernel
theorem d_277_30 : decode (mth 277).2.1 30 = .ok (.iconst 1, 1) := by decide +kernel
theorem d_277_31 : decode (mth 277).2.1 31 = .ok (.isub, 1) := by decide +kernel
theorem d_277_32 : decode (mth 277).2.1 32 = .ok (.i2l, 1) := by decide +kernel
theorem d_277_33 : decode (mth 277).2.1 33 = .ok (.invokestatic 58, 3) := by decide +kernel
theorem d_277_36 : decode (mth 277).2.1 36 = .ok (.ifCond .ne 6, 3) := by decide +kernel
theorem d_277_39 : decode (mth 277).2.1 39 = .ok (.bipush (-12), 2) := by decide +kernel
theorem d_277_41 : decode (mth 277).2.1 41 = .ok (.ireturn, 1) := by decide +kernel
theorem d_277_42 : decode (mth 277).2.1 42 = .ok (.aload_n 0, 1) := by decide +kernel
theorem d_277_43 : decode (mth 277).2.1 43 = .ok (.getfield 37, 3) := by decide +kernel
theorem d_277_46 : decode (mth 277).2.1 46 = .ok (.iload_n 1, 1) := by decide +kernel
theorem d_277_47 : decode (mth 277).2.1 47 = .ok (.iaload, 1) := by decide +kernel
theorem d_277_48 : decode (mth 277).2.1 48 = .ok (.istore 4, 2) := by decide +kernel
theorem d_277_50 : decode (mth 277).2.1 50 = .ok (.aload_n 0, 1) := by decide +kernel
theorem d_277_51 : decode (mth 277).2.1 51 = .ok (.getfield 43, 3) := by decide +kernel
theorem d_277_54 : decode (mth 277).2.1 54 = .ok (.bipush 40, 2) := by decide +kernel
theorem d_277_56 : decode (mth 277).2.1 56 = .ok (.iload_n 1, 1) := by decide +kernel
theorem d_277_57 : decode (mth 277).2.1 57 = .ok (.imul, 1) := by decide +kernel
theorem d_277_58 : decode (mth 277).2.1 58 = .ok (.iload_n 2, 1) := by decide +kernel
theorem d_277_59 : decode (mth 277).2.1 59 = .ok (.iadd, 1) := by decide +kernel
theorem d_277_60 : decode (mth 277).2.1 60 = .ok (.iload 4, 2) := by decide +kernel
theorem d_277_62 : decode (mth 277).2.1 62 = .ok (.iconst 1, 1) := by decide +kernel
theorem d_277_63 : decode (mth 277).2.1 63 = .ok (.if_icmp .ne 8, 3) := by decide +kernel
theorem d_277_66 : decode (mth 277).2.1 66 = .ok (.iload_n 3, 1) := by decide +kernel
theorem d_277_67 : decode (mth 277).2.1 67 = .ok (.i2b, 1) := by decide +kernel
theorem d_277_68 : decode (mth 277).2.1 68 = .ok (.goto 33, 3) := by decide +kernel
theorem d_277_71 : decode (mth 277).2.1 71 = .ok (.iload 4, 2) := by decide +kernel
theorem d_277_73 : decode (mth 277).2.1 73 = .ok (.iconst 2, 1) := by decide +kernel
theorem d_277_74 : decode (mth 277).2.1 74 = .ok (.if_icmp .ne 8, 3) := by decide +kernel
theorem d_277_77 : decode (mth 277).2.1 77 = .ok (.iload_n 3, 1) := by decide +kernel
theorem d_277_78 : decode (mth 277).2.1 78 = .ok (.i2s, 1) := by decide +kernel
theorem d_277_79 : decode (mth 277).2.1 79 = .ok (.goto 22, 3) := by decide +kernel
theorem d_277_82 : decode (mth 277).2.1 82 = .ok (.iload 4, 2) := by decide +kernel
theorem d_277_84 : decode (mth 277).2.1 84 = .ok (.iconst 5, 1) := by decide +kernel
theorem d_277_85 : decode (mth 277).2.1 85 = .ok (.if_icmp .ne 15, 3) := by decide +kernel
theorem d_277_88 : decode (mth 277).2.1 88 = .ok (.iload_n 3, 1) := by decide +kernel
theorem d_277_89 : decode (mth 277).2.1 89 = .ok (.ifCond .ne 7, 3) := by decide +kernel
theorem d_277_92 : decode (mth 277).2.1 92 = .ok (.iconst 0, 1) := by decide +kernel
theorem d_277_93 : decode (mth 277).2.1 93 = .ok (.goto 8, 3) := by decide +kernel
theorem d_277_96 : decode (mth 277).2.1 96 = .ok (.iconst 1, 1) := by decide +kernel
theorem d_277_97 : decode (mth 277).2.1 97 = .ok (.goto 4, 3) := by decide +kernel
theorem d_277_100 : decode (mth 277).2.1 100 = .ok (.iload_n 3, 1) := by decide +kernel
theorem d_277_101 : decode (mth 277).2.1 101 = .ok (.iastore, 1) := by decide +kernel
theorem d_277_102 : decode (mth 277).2.1 102 = .ok (.iconst 1, 1) := by decide +kernel
theorem d_277_103 : decode (mth 277).2.1 103 = .ok (.ireturn, 1) := by decide +kernel
/-! 278 PlayedTruthModel.item(III)I -/
theorem d_278_0 : decode (mth 278).2.1 0 = .ok (.iload_n 1, 1) := by decide +kernel
theorem d_278_1 : decode (mth 278).2.1 1 = .ok (.invokestatic 389, 3) := by decide +kernel
theorem d_278_4 : decode (mth 278).2.1 4 = .ok (.ifCond .eq 15, 3) := by decide +kernel
theorem d_278_7 : decode (mth 278).2.1 7 = .ok (.iload_n 2, 1) := by decide +kernel
theorem d_278_8 : decode (mth 278).2.1 8 = .ok (.i2l, 1) := by decide +kernel
theorem d_278_9 : decode (mth 278).2.1 9 = .ok (.lconst 0, 1) := by decide +kernel
theorem d_278_10 : decode (mth 278).2.1 10 = .ok (.ldc2_w 320, 3) := by decide +kernel
theorem d_278_13 : decode (mth 278).2.1 13 = .ok (.invokestatic 58, 3) := by decide +kernel
theorem d_278_16 : decode (mth 278).2.1 16 = .ok (.ifCond .ne 5, 3) := by decide +kernel
theorem d_278_19 : decode (mth 278).2.1 19 = .ok (.iconst (-1), 1) := by decide +kernel
theorem d_278_20 : decode (mth 278).2.1 20 = .ok (.ireturn, 1) := by decide +kernel
theorem d_278_21 : decode (mth 278).2.1 21 = .ok (.aload_n 0, 1) := by decide +kernel
theorem d_278_22 : decode (mth 278).2.1 22 = .ok (.getfield 37, 3) := by decide +kernel
theorem d_278_25 : decode (mth 278).2.1 25 = .ok (.iload_n 1, 1) := by decide +kernel
theorem d_278_26 : decode (mth 278).2.1 26 = .ok (.iaload, 1) := by decide +kernel
theorem d_278_27 : decode (mth 278).2.1 27 = .ok (.ifCond .ne 6, 3) := by decide +kernel
theorem d_278_30 : decode (mth 278).2.1 30 = .ok (.bipush (-11), 2) := by decide +kernel
theorem d_278_32 : decode (mth 278).2.1 32 = .ok (.ireturn, 1) := by decide +kernel
theorem d_278_33 : decode (mth 278).2.1 33 = .ok (.aload_n 0, 1) := by decide +kernel
theorem d_278_34 : decode (mth 278).2.1 34 = .ok (.getfield 37, 3) := by decide +kernel
theorem d_278_37 : decode (mth 278).2.1 37 = .ok (.iload_n 1, 1) := by decide +kernel
theorem d_278_38 : decode (mth 278).2.1 38 = .ok (.iaload, 1) := by decide +kernel
theorem d_278_39 : decode (mth 278).2.1 39 = .ok (.iload_n 2, 1) := by decide +kernel
theorem d_278_40 : decode (mth 278).2.1 40 = .ok (.iconst 1, 1) := by decide +kernel
theorem d_278_41 : decode (mth 278).2.1 41 = .ok (.iadd, 1) := by decide +kernel
theorem d_278_42 : decode (mth 278).2.1 42 = .ok (.if_icmp .eq 6, 3) := by decide +kernel
theorem d_278_45 : decode (mth 278).2.1 45 = .ok (.bipush (-13), 2) := by decide +kernel
theorem d_278_47 : decode (mth 278).2.1 47 = .ok (.ireturn, 1) := by decide +kernel
theorem d_278_48 : decode (mth 278).2.1 48 = .ok (.iload_n 3, 1) := by decide +kernel
theorem d_278_49 : decode (mth 278).2.1 49 = .ok (.i2l, 1) := by decide +kernel
theorem d_278_50 : decode (mth 278).2.1 50 = .ok (.lconst 0, 1) := by decide +kernel
theorem d_278_51 : decode (mth 278).2.1 51 = .ok (.aload_n 0, 1) := by decide +kernel
theorem d_278_52 : decode (mth 278).2.1 52 = .ok (.getfield 40, 3) := by decide +kernel
theorem d_278_55 : decode (mth 278).2.1 55 = .ok (.iload_n 1, 1) := by decide +kernel
theorem d_278_56 : decode (mth 278).2.1 56 = .ok (.iaload, 1) := by decide +kernel
theorem d_278_57 : decode (mth 278).2.1 57 = .ok (.iconst 1, 1) := by decide +kernel
theorem d_278_58 : decode (mth 278).2.1 58 = .ok (.isub, 1) := by decide +kernel
theorem d_278_59 : decode (mth 278).2.1 59 = .ok (.i2l, 1) := by decide +kernel
theorem d_278_60 : decode (mth 278).2.1 60 = .ok (.invokestatic 58, 3) := by decide +kernel
theorem d_278_63 : decode (mth 278).2.1 63 = .ok (.ifCond .eq 17, 3) := by decide +kernel
theorem d_278_66 : decode (mth 278).2.1 66 = .ok (.aload_n 0, 1) := by decide +kernel
theorem d_278_67 : decode (mth 278).2.1 67 = .ok (.getfield 43, 3) := by decide +kernel
theorem d_278_70 : decode (mth 278).2.1 70 = .ok (.bipush 40, 2) := by decide +kernel
theorem d_278_72 : decode (mth 278).2.1 72 = .ok (.iload_n 1, 1) := by decide +kernel
theorem d_278_73 : decode (mth 278).2.1 73 = .ok (.imul, 1) := by decide +kernel
theorem d_278_74 : decode (mth 278).2.1 74 = .ok (.iload_n 3, 1) := by decide +kernel
theorem d_278_75 : decode (mth 278).2.1 75 = .ok (.iadd, 1) := by decide +kernel
theorem d_278_76 : decode (mth 278).2.1 76 = .ok (.iaload, 1) := by decide +kernel
theorem d_278_77 : decode (mth 278).2.1 77 = .ok (.goto 5, 3) := by decide +kernel
theorem d_278_80 : decode (mth 278).2.1 80 = .ok (.bipush (-12), 2) := by decide +kernel
theorem d_278_82 : decode (mth 278).2.1 82 = .ok (.ireturn, 1) := by decide +kernel
/-! 279 PlayedTruthModel.goAll(III)I -/
theorem d_279_0 : decode (mth 279).2.1 0 = .ok (.aload_n 0, 1) := by decide +kernel
theorem d_279_1 : decode (mth 279).2.1 1 = .ok (.iload_n 1, 1) := by decide +kernel
theorem d_279_2 : decode (mth 279).2.1 2 = .ok (.iload_n 3, 1) := by decide +kernel
theorem d_279_3 : decode (mth 279).2.1 3 = .ok (.invokevirtual 394, 3) := by decide +kernel
theorem d_279_6 : decode (mth 279).2.1 6 = .ok (.istore 4, 2) := by decide +kernel
theorem d_279_8 : decode (mth 279).2.1 8 = .ok (.iload 4, 2) := by decide +kernel
theorem d_279_10 : decode (mth 279).2.1 10 = .ok (.ifCond .ge 6, 3) := by decide +kernel
theorem d_279_13 : decode (mth 279).2.1 13 = .ok (.iload 4, 2) := by decide +kernel
theorem d_279_15 : decode (mth 279).2.1 15 = .ok (.ireturn, 1) := by decide +kernel
theorem d_279_16 : decode (mth 279).2.1 16 = .ok (.iconst 0, 1) := by decide +kernel
theorem d_279_17 : decode (mth 279).2.1 17 = .ok (.istore 5, 2) := by decide +kernel
theorem d_279_19 : decode (mth 279).2.1 19 = .ok (.iconst 0, 1) := by decide +kernel
theorem d_279_20 : decode (mth 279).2.1 20 = .ok (.istore 6, 2) := by decide +kernel
theorem d_279_22 : decode (mth 279).2.1 22 = .ok (.iload 6, 2) := by decide +kernel
theorem d_279_24 : decode (mth 279).2.1 24 = .ok (.iload_n 3, 1) := by decide +kernel
theorem d_279_25 : decode (mth 279).2.1 25 = .ok (.if_icmp .ge 89, 3) := by decide +kernel
theorem d_279_28 : decode (mth 279).2.1 28 = .ok (.iload_n 2, 1) := by decide +kernel
theorem d_279_29 : decode (mth 279).2.1 29 = .ok (.i2l, 1) := by decide +kernel
theorem d_279_30 : decode (mth 279).2.1 30 = .ok (.iload 6, 2) := by decide +kernel
theorem d_279_32 : decode (mth 279).2.1 32 = .ok (.i2l, 1) := by decide +kernel
theorem d_279_33 : decode (mth 279).2.1 33 = .ok (.ladd, 1) := by decide +kernel
theorem d_279_34 : decode (mth 279).2.1 34 = .ok (.lconst 0, 1) := by decide +kernel
theorem d_279_35 : decode (mth 279).2.1 35 = .ok (.aload_n 0, 1) := by decide +kernel
theorem d_279_36 : decode (mth 279).2.1 36 = .ok (.getfield 40, 3) := by decide +kernel
theorem d_279_39 : decode (mth 279).2.1 39 = .ok (.iload_n 1, 1) := by decide +kernel
theorem d_279_40 : decode (mth 279).2.1 40 = .ok (.iaload, 1) := by decide +kernel
theorem d_279_41 : decode (mth 279).2.1 41 = .ok (.iconst 1, 1) := by decide +kernel
theorem d_279_42 : decode (mth 279).2.1 42 = .ok (.isub, 1) := by decide +kernel
theorem d_279_43 : decode (mth 279).2.1 43 = .ok (.i2l, 1) := by decide +kernel
theorem d_279_44 : decode (mth 279).2.1 44 = .ok (.invokestatic 58, 3) := by decide +kernel
theorem d_279_47 : decode (mth 279).2.1 47 = .ok (.ifCond .ne 6, 3) := by decide +kernel
theorem d_279_50 : decode (mth 279).2.1 50 = .ok (.bipush (-12), 2) := by decide +kernel
theorem d_279_52 : decode (mth 279).2.1 52 = .ok (.ireturn, 1) := by decide +kernel
theorem d_279_53 : decode (mth 279).2.1 53 = .ok (.aload_n 0, 1) := by decide +kernel
theorem d_279_54 : decode (mth 279).2.1 54 = .ok (.getfield 43, 3) := by decide +kernel
theorem d_279_57 : decode (mth 279).2.1 57 = .ok (.bipush 40, 2) := by decide +kernel
theorem d_279_59 : decode (mth 279).2.1 59 = .ok (.iload_n 1, 1) := by decide +kernel
theorem d_279_60 : decode (mth 279).2.1 60 = .ok (.imul, 1) := by decide +kernel
theorem d_279_61 : decode (mth 279).2.1 61 = .ok (.iload_n 2, 1) := by decide +kernel
theorem d_279_62 : decode (mth 279).2.1 62 = .ok (.iadd, 1) := by decide +kernel
theorem d_279_63 : decode (mth 279).2.1 63 = .ok (.iload 6, 2) := by decide +kernel
theorem d_279_65 : decode (mth 279).2.1 65 = .ok (.iadd, 1) := by decide +kernel
theorem d_279_66 : decode (mth 279).2.1 66 = .ok (.iaload, 1) := by decide +kernel
theorem d_279_67 : decode (mth 279).2.1 67 = .ok (.istore 7, 2) := by decide +kernel
theorem d_279_69 : decode (mth 279).2.1 69 = .ok (.iload 5, 2) := by decide +kernel
theorem d_279_71 : decode (mth 279).2.1 71 = .ok (.iload 7, 2) := by decide +kernel
theorem d_279_73 : decode (mth 279).2.1 73 = .ok (.i2l, 1) := by decide +kernel
theorem d_279_74 : decode (mth 279).2.1 74 = .ok (.lconst 0, 1) := by decide +kernel
theorem d_279_75 : decode (mth 279).2.1 75 = .ok (.aload_n 0, 1) := by decide +kernel
theorem d_279_76 : decode (mth 279).2.1 76 = .ok (.getfield 7, 3) := by decide +kernel
theorem d_279_79 : decode (mth 279).2.1 79 = .ok (.iconst 0, 1) := by decide +kernel
theorem d_279_80 : decode (mth 279).2.1 80 = .ok (.iaload, 1) := by decide +kernel
theorem d_279_81 : decode (mth 279).2.1 81 = .ok (.i2l, 1) := by decide +kernel
theorem d_279_82 : decode (mth 279).2.1 82 = .ok (.invokestatic 58, 3) := by decide +kernel
theorem d_279_85 : decode (mth 279).2.1 85 = .ok (.ifCond .eq 19, 3) := by decide +kernel
theorem d_279_88 : decode (mth 279).2.1 88 = .ok (.aload_n 0, 1) := by decide +kernel
theorem d_279_89 : decode (mth 279).2.1 89 = .ok (.invokevirtual 128, 3) := by decide +kernel
theorem d_279_92 : decode (mth 279).2.1 92 = .ok (.ifCond .ne 12, 3) := by decide +kernel
theorem d_279_95 : decode (mth 279).2.1 95 = .ok (.aload_n 0, 1) := by decide +kernel
theorem d_279_96 : decode (mth 279).2.1 96 = .ok (.iload 7, 2) := by decide +kernel
theorem d_279_98 : decode (mth 279).2.1 98 = .ok (.invokevirtual 135, 3) := by decide +kernel
theorem d_279_101 : decode (mth 279).2.1 101 = .ok (.goto 4, 3) := by decide +kernel
theorem d_279_104 : decode (mth 279).2.1 104 = .ok (.iconst 0, 1) := by decide +kernel
theorem d_279_105 : decode (mth 279).2.1 105 = .ok (.iadd, 1) := by decide +kernel
theorem d_279_106 : decode (mth 279).2.1 106 = .ok (.istore 5, 2) := by decide +kernel
theorem d_279_108 : decode (mth 279).2.1 108 = .ok (.iinc 6 1, 3) := by decide +kernel
theorem d_279_111 : decode (mth 279).2.1 111 = .ok (.goto (-89), 3) := by decide +kernel
theorem d_279_114 : decode (mth 279).2.1 114 = .ok (.iload 5, 2) := by decide +kernel
theorem d_279_116 : decode (mth 279).2.1 116 = .ok (.ireturn, 1) := by decide +kernel
/-! 280 PlayedTruthModel.whyNoBytes(II)I -/
theorem d_280_0 : decode (mth 280).2.1 0 = .ok (.iload_n 1, 1) := by decide +kernel
theorem d_280_1 : decode (mth 280).2.1 1 = .ok (.invokestatic 389, 3) := by decide +kernel
theorem d_280_4 : decode (mth 280).2.1 4 = .ok (.ifCond .eq 15, 3) := by decide +kernel
theorem d_280_7 : decode (mth 280).2.1 7 = .ok (.iload_n 2, 1) := by decide +kernel
theorem d_280_8 : decode (mth 280).2.1 8 = .ok (.i2l, 1) := by decide +kernel
theorem d_280_9 : decode (mth 280).2.1 9 = .ok (.lconst 0, 1) := by decide +kernel
theorem d_280_10 : decode (mth 280).2.1 10 = .ok (.ldc2_w 392, 3) := by decide +kernel
theorem d_280_13 : decode (mth 280).2.1 13 = .ok (.invokestatic 58, 3) := by decide +kernel
theorem d_280_16 : decode (mth 280).2.1 16 = .ok (.ifCond .ne 5, 3) := by decide +kernel
theorem d_280_19 : decode (mth 280).2.1 19 = .ok (.iconst (-1), 1) := by decide +kernel
theorem d_280_20 : decode (mth 280).2.1 20 = .ok (.ireturn, 1) := by decide +kernel
theorem d_280_21 : decode (mth 280).2.1 21 = .ok (.aload_n 0, 1) := by decide +kernel
theorem d_280_22 : decode (mth 280).2.1 22 = .ok (.getfield 37, 3) := by decide +kernel
theorem d_280_25 : decode (mth 280).2.1 25 = .ok (.iload_n 1, 1) := by decide +kernel
theorem d_280_26 : decode (mth 280).2.1 26 = .ok (.iaload, 1) := by decide +kernel
theorem d_280_27 : decode (mth 280).2.1 27 = .ok (.ifCond .ne 8, 3) := by decide +kernel
theorem d_280_30 : decode (mth 280).2.1 30 = .ok (.bipush (-11), 2) := by decide +kernel
theorem d_280_32 : decode (mth 280).2.1 32 = .ok (.goto 19, 3) := by decide +kernel
theorem d_280_35 : decode (mth 280).2.1 35 = .ok (.aload_n 0, 1) := by decide +kernel
theorem d_280_36 : decode (mth 280).2.1 36 = .ok (.getfield 37, 3) := by decide +kernel
theorem d_280_39 : decode (mth 280).2.1 39 = .ok (.iload_n 1, 1) := by decide +kernel
theorem d_280_40 : decode (mth 280).2.1 40 = .ok (.iaload, 1) := by decide +kernel
theorem d_280_41 : decode (mth 280).2.1 41 = .ok (.iconst 1, 1) := by decide +kernel
theorem d_280_42 : decode (mth 280).2.1 42 = .ok (.if_icmp .eq 8, 3) := by decide +kernel
theorem d_280_45 : decode (mth 280).2.1 45 = .ok (.bipush (-13), 2) := by decide +kernel
theorem d_280_47 : decode (mth 280).2.1 47 = .ok (.goto 4, 3) := by decide +kernel
theorem d_280_50 : decode (mth 280).2.1 50 = .ok (.iconst 0, 1) := by decide +kernel
theorem d_280_51 : decode (mth 280).2.1 51 = .ok (.ireturn, 1) := by decide +kernel
/-! 281 PlayedTruthModel.wouldBe(III)I -/
theorem d_281_0 : decode (mth 281).2.1 0 = .ok (.aload_n 0, 1) := by decide +kernel
theorem d_281_1 : decode (mth 281).2.1 1 = .ok (.iload_n 1, 1) := by decide +kernel
theorem d_281_2 : decode (mth 281).2.1 2 = .ok (.iload_n 3, 1) := by decide +kernel
theorem d_281_3 : decode (mth 281).2.1 3 = .ok (.invokevirtual 394, 3) := by decide +kernel
theorem d_281_6 : decode (mth 281).2.1 6 = .ok (.istore 4, 2) := by decide +kernel
theorem d_281_8 : decode (mth 281).2.1 8 = .ok (.iload 4, 2) := by decide +kernel
theorem d_281_10 : decode (mth 281).2.1 10 = .ok (.ifCond .ge 6, 3) := by decide +kernel
theorem d_281_13 : decode (mth 281).2.1 13 = .ok (.iload 4, 2) := by decide +kernel
theorem d_281_15 : decode (mth 281).2.1 15 = .ok (.ireturn, 1) := by decide +kernel
theorem d_281_16 : decode (mth 281).2.1 16 = .ok (.iconst 0, 1) := by decide +kernel
theorem d_281_17 : decode (mth 281).2.1 17 = .ok (.istore 5, 2) := by decide +kernel
theorem d_281_19 : decode (mth 281).2.1 19 = .ok (.aload_n 0, 1) := by decide +kernel
theorem d_281_20 : decode (mth 281).2.1 20 = .ok (.invokevirtual 288, 3) := by decide +kernel
theorem d_281_23 : decode (mth 281).2.1 23 = .ok (.iconst 0, 1) := by decide +kernel
theorem d_281_24 : decode (mth 281).2.1 24 = .ok (.istore 6, 2) := by decide +kernel
theorem d_281_26 : decode (mth 281).2.1 26 = .ok (.iload 6, 2) := by decide +kernel
theorem d_281_28 : decode (mth 281).2.1 28 = .ok (.iload_n 3, 1) := by decide +kernel
theorem d_281_29 : decode (mth 281).2.1 29 = .ok (.if_icmp .ge 109, 3) := by decide +kernel
theorem d_281_32 : decode (mth 281).2.1 32 = .ok (.iload 5, 2) := by decide +kernel
theorem d_281_34 : decode (mth 281).2.1 34 = .ok (.ifCond .lt 104, 3) := by decide +kernel
theorem d_281_37 : decode (mth 281).2.1 37 = .ok (.iload_n 2, 1) := by decide +kernel
theorem d_281_38 : decode (mth 281).2.1 38 = .ok (.i2l, 1) := by decide +kernel
theorem d_281_39 : decode (mth 281).2.1 39 = .ok (.iload 6, 2) := by decide +kernel
theorem d_281_41 : decode (mth 281).2.1 41 = .ok (.i2l, 1) := by decide +kernel
theorem d_281_42 : decode (mth 281).2.1 42 = .ok (.ladd, 1) := by decide +kernel
theorem d_281_43 : decode (mth 281).2.1 43 = .ok (.lconst 0, 1) := by decide +kernel
theorem d_281_44 : decode (mth 281).2.1 44 = .ok (.aload_n 0, 1) := by decide +kernel
theorem d_281_45 : decode (mth 281).2.1 45 = .ok (.getfield 40, 3) := by decide +kernel
theorem d_281_48 : decode (mth 281).2.1 48 = .ok (.iload_n 1, 1) := by decide +kernel
theorem d_281_49 : decode (mth 281).2.1 49 = .ok (.iaload, 1) := by decide +kernel
theorem d_281_50 : decode (mth 281).2.1 50 = .ok (.iconst 1, 1) := by decide +kernel
theorem d_281_51 : decode (mth 281).2.1 51 = .ok (.isub, 1) := by decide +kernel
theorem d_281_52 : decode (mth 281).2.1 52 = .ok (.i2l, 1) := by decide +kernel
theorem d_281_53 : decode (mth 281).2.1 53 = .ok (.invokestatic 58, 3) := by decide +kernel
theorem d_281_56 : decode (mth 281).2.1 56 = .ok (.ifCond .ne 10, 3) := by decide +kernel
theorem d_281_59 : decode (mth 281).2.1 59 = .ok (.bipush (-12), 2) := by decide +kernel
theorem d_281_61 : decode (mth 281).2.1 61 = .ok (.istore 5, 2) := by decide +kernel
theorem d_281_63 : decode (mth 281).2.1 63 = .ok (.goto 69, 3) := by decide +kernel
theorem d_281_66 : decode (mth 281).2.1 66 = .ok (.aload_n 0, 1) := by decide +kernel
theorem d_281_67 : decode (mth 281).2.1 67 = .ok (.getfield 43, 3) := by decide +kernel
theorem d_281_70 : decode (mth 281).2.1 70 = .ok (.bipush 40, 2) := by decide +kernel
theorem d_281_72 : decode (mth 281).2.1 72 = .ok (.iload_n 1, 1) := by decide +kernel
theorem d_281_73 : decode (mth 281).2.1 73 = .ok (.imul, 1) := by decide +kernel
theorem d_281_74 : decode (mth 281).2.1 74 = .ok (.iload_n 2, 1) := by decide +kernel
theorem d_281_75 : decode (mth 281).2.1 75 = .ok (.iadd, 1) := by decide +kernel
theorem d_281_76 : decode (mth 281).2.1 76 = .ok (.iload 6, 2) := by decide +kernel
theorem d_281_78 : decode (mth 281).2.1 78 = .ok (.iadd, 1) := by decide +kernel
theorem d_281_79 : decode (mth 281).2.1 79 = .ok (.iaload, 1) := by decide +kernel
theorem d_281_80 : decode (mth 281).2.1 80 = .ok (.i2l, 1) := by decide +kernel
theorem d_281_81 : decode (mth 281).2.1 81 = .ok (.lconst 0, 1) := by decide +kernel
theorem d_281_82 : decode (mth 281).2.1 82 = .ok (.aload_n 0, 1) := by decide +kernel
theorem d_281_83 : decode (mth 281).2.1 83 = .ok (.getfield 7, 3) := by decide +kernel
theorem d_281_86 : decode (mth 281).2.1 86 = .ok (.iconst 0, 1) := by decide +kernel
theorem d_281_87 : decode (mth 281).2.1 87 = .ok (.iaload, 1) := by decide +kernel
theorem d_281_88 : decode (mth 281).2.1 88 = .ok (.i2l, 1) := by decide +kernel
theorem d_281_89 : decode (mth 281).2.1 89 = .ok (.invokestatic 58, 3) := by decide +kernel
theorem d_281_92 : decode (mth 281).2.1 92 = .ok (.ifCond .eq 10, 3) := by decide +kernel
theorem d_281_95 : decode (mth 281).2.1 95 = .ok (.aload_n 0, 1) := by decide +kernel
theorem d_281_96 : decode (mth 281).2.1 96 = .ok (.invokevirtual 128, 3) := by decide +kernel
theorem d_281_99 : decode (mth 281).2.1 99 = .ok (.ifCond .eq 10, 3) := by decide +kernel
theorem d_281_102 : decode (mth 281).2.1 102 = .ok (.bipush (-4), 2) := by decide +kernel
theorem d_281_104 : decode (mth 281).2.1 104 = .ok (.istore 5, 2) := by decide +kernel
theorem d_281_106 : decode (mth 281).2.1 106 = .ok (.goto 26, 3) := by decide +kernel
theorem d_281_109 : decode (mth 281).2.1 109 = .ok (.iload 5, 2) := by decide +kernel
theorem d_281_111 : decode (mth 281).2.1 111 = .ok (.aload_n 0, 1) := by decide +kernel
theorem d_281_112 : decode (mth 281).2.1 112 = .ok (.aload_n 0, 1) := by decide +kernel
theorem d_281_113 : decode (mth 281).2.1 113 = .ok (.getfield 43, 3) := by decide +kernel
theorem d_281_116 : decode (mth 281).2.1 116 = .ok (.bipush 40, 2) := by decide +kernel
theorem d_281_118 : decode (mth 281).2.1 118 = .ok (.iload_n 1, 1) := by decide +kernel
theorem d_281_119 : decode (mth 281).2.1 119 = .ok (.imul, 1) := by decide +kernel
theorem d_281_120 : decode (mth 281).2.1 120 = .ok (.iload_n 2, 1) := by decide +kernel
theorem d_281_121 : decode (mth 281).2.1 121 = .ok (.iadd, 1) := by decide +kernel
theorem d_281_122 : decode (mth 281).2.1 122 = .ok (.iload 6, 2) := by decide +kernel
theorem d_281_124 : decode (mth 281).2.1 124 = .ok (.iadd, 1) := by decide +kernel
theorem d_281_125 : decode (mth 281).2.1 125 = .ok (.iaload, 1) := by decide +kernel
theorem d_281_126 : decode (mth 281).2.1 126 = .ok (.invokevirtual 135, 3) := by decide +kernel
theorem d_281_129 : decode (mth 281).2.1 129 = .ok (.iadd, 1) := by decide +kernel
theorem d_281_130 : decode (mth 281).2.1 130 = .ok (.istore 5, 2) := by decide +kernel
theorem d_281_132 : decode (mth 281).2.1 132 = .ok (.iinc 6 1, 3) := by decide +kernel
theorem d_281_135 : decode (mth 281).2.1 135 = .ok (.goto (-109), 3) := by decide +kernel
theorem d_281_138 : decode (mth 281).2.1 138 = .ok (.aload_n 0, 1) := by decide +kernel
theorem d_281_139 : decode (mth 281).2.1 139 = .ok (.invokevirtual 294, 3) := by decide +kernel
theorem d_281_142 : decode (mth 281).2.1 142 = .ok (.iload 5, 2) := by decide +kernel
theorem d_281_144 : decode (mth 281).2.1 144 = .ok (.ireturn, 1) := by decide +kernel
/-! 282 PlayedTruthModel.shelf(III)I -/
theorem d_282_0 : decode (mth 282).2.1 0 = .ok (.iload_n 2, 1) := by decide +kernel
theorem d_282_1 : decode (mth 282).2.1 1 = .ok (.ifCond .ne 11, 3) := by decide +kernel
theorem d_282_4 : decode (mth 282).2.1 4 = .ok (.aload_n 0, 1) := by decide +kernel
theorem d_282_5 : decode (mth 282).2.1 5 = .ok (.iload_n 3, 1) := by decide +kernel
theorem d_282_6 : decode (mth 282).2.1 6 = .ok (.invokevirtual 144, 3) := by decide +kernel
theorem d_282_9 : decode (mth 282).2.1 9 = .ok (.goto 25, 3) := by decide +kernel
theorem d_282_12 : decode (mth 282).2.1 12 = .ok (.iload_n 2, 1) := by decide +kernel
theorem d_282_13 : decode (mth 282).2.1 13 = .ok (.iconst 1, 1) := by decide +kernel
theorem d_282_14 : decode (mth 282).2.1 14 = .ok (.if_icmp .ne 10, 3) := by decide +kernel
theorem d_282_17 : decode (mth 282).2.1 17 = .ok (.iload_n 3, 1) := by decide +kernel
theorem d_282_18 : decode (mth 282).2.1 18 = .ok (.invokestatic 389, 3) := by decide +kernel
theorem d_282_21 : decode (mth 282).2.1 21 = .ok (.goto 13, 3) := by decide +kernel
theorem d_282_24 : decode (mth 282).2.1 24 = .ok (.iload_n 2, 1) := by decide +kernel
theorem d_282_25 : decode (mth 282).2.1 25 = .ok (.iconst 2, 1) := by decide +kernel
theorem d_282_26 : decode (mth 282).2.1 26 = .ok (.if_icmp .ne 7, 3) := by decide +kernel
theorem d_282_29 : decode (mth 282).2.1 29 = .ok (.iconst 1, 1) := by decide +kernel
theorem d_282_30 : decode (mth 282).2.1 30 = .ok (.goto 4, 3) := by decide +kernel
theorem d_282_33 : decode (mth 282).2.1 33 = .ok (.iconst 0, 1) := by decide +kernel
theorem d_282_34 : decode (mth 282).2.1 34 = .ok (.istore 4, 2) := by decide +kernel
theorem d_282_36 : decode (mth 282).2.1 36 = .ok (.iload_n 1, 1) := by decide +kernel
theorem d_282_37 : decode (mth 282).2.1 37 = .ok (.i2l, 1) := by decide +kernel
theorem d_282_38 : decode (mth 282).2.1 38 = .ok (.lconst 0, 1) := by decide +kernel
theorem d_282_39 : decode (mth 282).2.1 39 = .ok (.ldc2_w 347, 3) := by decide +kernel
theorem d_282_42 : decode (mth 282).2.1 42 = .ok (.invokestatic 58, 3) := by decide +kernel
theorem d_282_45 : decode (mth 282).2.1 45 = .ok (.ifCond .eq 8, 3) := by decide +kernel
theorem d_282_48 : decode (mth 282).2.1 48 = .ok (.iload 4, 2) := by decide +kernel
theorem d_282_50 : decode (mth 282).2.1 50 = .ok (.ifCond .ne 5, 3) := by decide +kernel
theorem d_282_53 : decode (mth 282).2.1 53 = .ok (.iconst (-1), 1) := by decide +kernel
theorem d_282_54 : decode (mth 282).2.1 54 = .ok (.ireturn, 1) := by decide +kernel
theorem d_282_55 : decode (mth 282).2.1 55 = .ok (.iload_n 2, 1) := by decide +kernel
theorem d_282_56 : decode (mth 282).2.1 56 = .ok (.iconst 1, 1) := by decide +kernel
theorem d_282_57 : decode (mth 282).2.1 57 = .ok (.if_icmp .ne 16, 3) := by decide +kernel
theorem d_282_60 : decode (mth 282).2.1 60 = .ok (.aload_n 0, 1) := by decide +kernel
theorem d_282_61 : decode (mth 282).2.1 61 = .ok (.getfield 37, 3) := by decide +kernel
theorem d_282_64 : decode (mth 282).2.1 64 = .ok (.iload_n 3, 1) := by decide +kernel
theorem d_282_65 : decode (mth 282).2.1 65 = .ok (.iaload, 1) := by decide +kernel
theorem d_282_66 : decode (mth 282).2.1 66 = .ok (.ifCond .le 7, 3) := by decide +kernel
theorem d_282_69 : decode (mth 282).2.1 69 = .ok (.iconst 1, 1) := by decide +kernel
theorem d_282_70 : decode (mth 282).2.1 70 = .ok (.goto 4, 3) := by decide +kernel
theorem d_282_73 : decode (mth 282).2.1 73 = .ok (.iconst 0, 1) := by decide +kernel
theorem d_282_74 : decode (mth 282).2.1 74 = .ok (.istore 5, 2) := by decide +kernel
theorem d_282_76 : decode (mth 282).2.1 76 = .ok (.aload_n 0, 1) := by decide +kernel
theorem d_282_77 : decode (mth 282).2.1 77 = .ok (.getfield 46, 3) := by decide +kernel
theorem d_282_80 : decode (mth 282).2.1 80 = .ok (.iload_n 1, 1) := by decide +kernel
theorem d_282_81 : decode (mth 282).2.1 81 = .ok (.iload_n 2, 1) := by decide +kernel
theorem d_282_82 : decode (mth 282).2.1 82 = .ok (.ifCond .ne 7, 3) := by decide +kernel
theorem d_282_85 : decode (mth 282).2.1 85 = .ok (.iconst 1, 1) := by decide +kernel
theorem d_282_86 : decode (mth 282).2.1 86 = .ok (.goto 13, 3) := by decide +kernel
theorem d_282_89 : decode (mth 282).2.1 89 = .ok (.iload 5, 2) := by decide +kernel
theorem d_282_91 : decode (mth 282).2.1 91 = .ok (.ifCond .eq 7, 3) := by decide +kernel
theorem d_282_94 : decode (mth 282).2.1 94 = .ok (.iconst 2, 1) := by decide +kernel
theorem d_282_95 : decode (mth 282).2.1 95 = .ok (.goto 4, 3) := by decide +kernel
theorem d_282_98 : decode (mth 282).2.1 98 = .ok (.iconst 0, 1) := by decide +kernel
theorem d_282_99 : decode (mth 282).2.1 99 = .ok (.iastore, 1) := by decide +kernel
theorem d_282_100 : decode (mth 282).2.1 100 = .ok (.aload_n 0, 1) := by decide +kernel
theorem d_282_101 : decode (mth 282).2.1 101 = .ok (.getfield 49, 3) := by decide +kernel
theorem d_282_104 : decode (mth 282).2.1 104 = .ok (.iload_n 1, 1) := by decide +kernel
theorem d_282_105 : decode (mth 282).2.1 105 = .ok (.iload_n 2, 1) := by decide +kernel
theorem d_282_106 : decode (mth 282).2.1 106 = .ok (.ifCond .ne 7, 3) := by decide +kernel
theorem d_282_109 : decode (mth 282).2.1 109 = .ok (.iload_n 3, 1) := by decide +kernel
theorem d_282_110 : decode (mth 282).2.1 110 = .ok (.goto 20, 3) := by decide +kernel
theorem d_282_113 : decode (mth 282).2.1 113 = .ok (.iload 5, 2) := by decide +kernel
theorem d_282_115 : decode (mth 282).2.1 115 = .ok (.ifCond .eq 14, 3) := by decide +kernel
theorem d_282_118 : decode (mth 282).2.1 118 = .ok (.aload_n 0, 1) := by decide +kernel
theorem d_282_119 : decode (mth 282).2.1 119 = .ok (.getfield 37, 3) := by decide +kernel
theorem d_282_122 : decode (mth 282).2.1 122 = .ok (.iload_n 3, 1) := by decide +kernel
theorem d_282_123 : decode (mth 282).2.1 123 = .ok (.iaload, 1) := by decide +kernel
theorem d_282_124 : decode (mth 282).2.1 124 = .ok (.iconst 1, 1) := by decide +kernel
theorem d_282_125 : decode (mth 282).2.1 125 = .ok (.isub, 1) := by decide +kernel
theorem d_282_126 : decode (mth 282).2.1 126 = .ok (.goto 4, 3) := by decide +kernel
theorem d_282_129 : decode (mth 282).2.1 129 = .ok (.iconst 0, 1) := by decide +kernel
theorem d_282_130 : decode (mth 282).2.1 130 = .ok (.iastore, 1) := by decide +kernel
theorem d_282_131 : decode (mth 282).2.1 131 = .ok (.aload_n 0, 1) := by decide +kernel
theorem d_282_132 : decode (mth 282).2.1 132 = .ok (.getfield 52, 3) := by decide +kernel
theorem d_282_135 : decode (mth 282).2.1 135 = .ok (.iload_n 1, 1) := by decide +kernel
theorem d_282_136 : decode (mth 282).2.1 136 = .ok (.iload 5, 2) := by decide +kernel
theorem d_282_138 : decode (mth 282).2.1 138 = .ok (.ifCond .eq 12, 3) := by decide +kernel
theorem d_282_141 : decode (mth 282).2.1 141 = .ok (.aload_n 0, 1) := by decide +kernel
theorem d_282_142 : decode (mth 282).2.1 142 = .ok (.getfield 40, 3) := by decide +kernel
theorem d_282_145 : decode (mth 282).2.1 145 = .ok (.iload_n 3, 1) := by decide +kernel
theorem d_282_146 : decode (mth 282).2.1 146 = .ok (.iaload, 1) := by decide +kernel
theorem d_282_147 : decode (mth 282).2.1 147 = .ok (.goto 4, 3) := by decide +kernel
theorem d_282_150 : decode (mth 282).2.1 150 = .ok (.iconst 0, 1) := by decide +kernel
theorem d_282_151 : decode (mth 282).2.1 151 = .ok (.iastore, 1) := by decide +kernel
theorem d_282_152 : decode (mth 282).2.1 152 = .ok (.iconst 1, 1) := by decide +kernel
theorem d_282_153 : decode (mth 282).2.1 153 = .ok (.ireturn, 1) := by decide +kernel
/-! 283 PlayedTruthModel.taken(II)I -/
theorem d_283_0 : decode (mth 283).2.1 0 = .ok (.iload_n 1, 1) := by decide +kernel
theorem d_283_1 : decode (mth 283).2.1 1 = .ok (.i2l, 1) := by decide +kernel
theorem d_283_2 : decode (mth 283).2.1 2 = .ok (.lconst 0, 1) := by decide +kernel
theorem d_283_3 : decode (mth 283).2.1 3 = .ok (.ldc2_w 347, 3) := by decide +kernel
theorem d_283_6 : decode (mth 283).2.1 6 = .ok (.invokestatic 58, 3) := by decide +kernel
theorem d_283_9 : decode (mth 283).2.1 9 = .ok (.ifCond .eq 29, 3) := by decide +kernel
theorem d_283_12 : decode (mth 283).2.1 12 = .ok (.iload_n 2, 1) := by decide +kernel
theorem d_283_13 : decode (mth 283).2.1 13 = .ok (.i2l, 1) := by decide +kernel
theorem d_283_14 : decode (mth 283).2.1 14 = .ok (.lconst 0, 1) := by decide +kernel
theorem d_283_15 : decode (mth 283).2.1 15 = .ok (.ldc2_w 138, 3) := by decide +kernel
theorem d_283_18 : decode (mth 283).2.1 18 = .ok (.invokestatic 58, 3) := by decide +kernel
theorem d_283_21 : decode (mth 283).2.1 21 = .ok (.ifCond .ne 19, 3) := by decide +kernel
theorem d_283_24 : decode (mth 283).2.1 24 = .ok (.iload_n 2, 1) := by decide +kernel
theorem d_283_25 : decode (mth 283).2.1 25 = .ok (.i2l, 1) := by decide +kernel
theorem d_283_26 : decode (mth 283).2.1 26 = .ok (.ldc2_w 190, 3) := by decide +kernel
theorem d_283_29 : decode (mth 283).2.1 29 = .ok (.ldc2_w 397, 3) := by decide +kernel
theorem d_283_32 : decode (mth 283).2.1 32 = .ok (.invokestatic 58, 3) := by decide +kernel
theorem d_283_35 : decode (mth 283).2.1 35 = .ok (.ifCond .ne 5, 3) := by decide +kernel
theorem d_283_38 : decode (mth 283).2.1 38 = .ok (.iconst (-1), 1) := by decide +kernel
theorem d_283_39 : decode (mth 283).2.1 39 = .ok (.ireturn, 1) := by decide +kernel
theorem d_283_40 : decode (mth 283).2.1 40 = .ok (.aload_n 0, 1) := by decide +kernel
theorem d_283_41 : decode (mth 283).2.1 41 = .ok (.iload_n 1, 1) := by decide +kernel
theorem d_283_42 : decode (mth 283).2.1 42 = .ok (.invokevirtual 399, 3) := by decide +kernel
theorem d_283_45 : decode (mth 283).2.1 45 = .ok (.ifCond .eq 6, 3) := by decide +kernel
theorem d_283_48 : decode (mth 283).2.1 48 = .ok (.bipush (-11), 2) := by decide +kernel
theorem d_283_50 : decode (mth 283).2.1 50 = .ok (.ireturn, 1) := by decide +kernel
theorem d_283_51 : decode (mth 283).2.1 51 = .ok (.aload_n 0, 1) := by decide +kernel
theorem d_283_52 : decode (mth 283).2.1 52 = .ok (.getfield 46, 3) := by decide +kernel
theorem d_283_55 : decode (mth 283).2.1 55 = .ok (.iload_n 1, 1) := by decide +kernel
theorem d_283_56 : decode (mth 283).2.1 56 = .ok (.iaload, 1) := by decide +kernel
theorem d_283_57 : decode (mth 283).2.1 57 = .ok (.iconst 2, 1) := by decide +kernel
theorem d_283_58 : decode (mth 283).2.1 58 = .ok (.if_icmp .ne 28, 3) := by decide +kernel
theorem d_283_61 : decode (mth 283).2.1 61 = .ok (.aload_n 0, 1) := by decide +kernel
theorem d_283_62 : decode (mth 283).2.1 62 = .ok (.getfield 49, 3) := by decide +kernel
theorem d_283_65 : decode (mth 283).2.1 65 = .ok (.iload_n 1, 1) := by decide +kernel
theorem d_283_66 : decode (mth 283).2.1 66 = .ok (.iaload, 1) := by decide +kernel
theorem d_283_67 : decode (mth 283).2.1 67 = .ok (.iload_n 2, 1) := by decide +kernel
theorem d_283_68 : decode (mth 283).2.1 68 = .ok (.bipush 10, 2) := by decide +kernel
theorem d_283_70 : decode (mth 283).2.1 70 = .ok (.isub, 1) := by decide +kernel
theorem d_283_71 : decode (mth 283).2.1 71 = .ok (.if_icmp .ne 12, 3) := by decide +kernel
theorem d_283_74 : decode (mth 283).2.1 74 = .ok (.aload_n 0, 1) := by decide +kernel
theorem d_283_75 : decode (mth 283).2.1 75 = .ok (.getfield 52, 3) := by decide +kernel
theorem d_283_78 : decode (mth 283).2.1 78 = .ok (.iload_n 1, 1) := by decide +kernel
theorem d_283_79 : decode (mth 283).2.1 79 = .ok (.iaload, 1) := by decide +kernel
theorem d_283_80 : decode (mth 283).2.1 80 = .ok (.goto 5, 3) := by decide +kernel
theorem d_283_83 : decode (mth 283).2.1 83 = .ok (.bipush (-13), 2) := by decide +kernel
theorem d_283_85 : decode (mth 283).2.1 85 = .ok (.ireturn, 1) := by decide +kernel
theorem d_283_86 : decode (mth 283).2.1 86 = .ok (.aload_n 0, 1) := by decide +kernel
theorem d_283_87 : decode (mth 283).2.1 87 = .ok (.aload_n 0, 1) := by decide +kernel
theorem d_283_88 : decode (mth 283).2.1 88 = .ok (.getfield 49, 3) := by decide +kernel
theorem d_283_91 : decode (mth 283).2.1 91 = .ok (.iload_n 1, 1) := by decide +kernel
theorem d_283_92 : decode (mth 283).2.1 92 = .ok (.iaload, 1) := by decide +kernel
theorem d_283_93 : decode (mth 283).2.1 93 = .ok (.iconst 0, 1) := by decide +kernel
theorem d_283_94 : decode (mth 283).2.1 94 = .ok (.invokevirtual 77, 3) := by decide +kernel
theorem d_283_97 : decode (mth 283).2.1 97 = .ok (.istore_n 3, 1) := by decide +kernel
theorem d_283_98 : decode (mth 283).2.1 98 = .ok (.iload_n 2, 1) := by decide +kernel
theorem d_283_99 : decode (mth 283).2.1 99 = .ok (.bipush 10, 2) := by decide +kernel
theorem d_283_101 : decode (mth 283).2.1 101 = .ok (.if_icmp .ge 29, 3) := by decide +kernel
theorem d_283_104 : decode (mth 283).2.1 104 = .ok (.iload_n 2, 1) := by decide +kernel
theorem d_283_105 : decode (mth 283).2.1 105 = .ok (.ifCond .eq 16, 3) := by decide +kernel
theorem d_283_108 : decode (mth 283).2.1 108 = .ok (.iload_n 3, 1) := by decide +kernel
theorem d_283_109 : decode (mth 283).2.1 109 = .ok (.iload_n 2, 1) := by decide +kernel
theorem d_283_110 : decode (mth 283).2.1 110 = .ok (.if_icmp .eq 11, 3) := by decide +kernel
theorem d_283_113 : decode (mth 283).2.1 113 = .ok (.iload_n 3, 1) := by decide +kernel
theorem d_283_114 : decode (mth 283).2.1 114 = .ok (.invokestatic 101, 3) := by decide +kernel
theorem d_283_117 : decode (mth 283).2.1 117 = .ok (.iload_n 2, 1) := by decide +kernel
theorem d_283_118 : decode (mth 283).2.1 118 = .ok (.if_icmp .ne 12, 3) := by decide +kernel
theorem d_283_121 : decode (mth 283).2.1 121 = .ok (.aload_n 0, 1) := by decide +kernel
theorem d_283_122 : decode (mth 283).2.1 122 = .ok (.getfield 49, 3) := by decide +kernel
theorem d_283_125 : decode (mth 283).2.1 125 = .ok (.iload_n 1, 1) := by decide +kernel
theorem d_283_126 : decode (mth 283).2.1 126 = .ok (.iaload, 1) := by decide +kernel
theorem d_283_127 : decode (mth 283).2.1 127 = .ok (.goto 5, 3) := by decide +kernel
theorem d_283_130 : decode (mth 283).2.1 130 = .ok (.bipush (-13), 2) := by decide +kernel
theorem d_283_132 : decode (mth 283).2.1 132 = .ok (.ireturn, 1) := by decide +kernel
/-! 284 PlayedTruthModel.holdsNothing(I)Z -/
theorem d_284_0 : decode (mth 284).2.1 0 = .ok (.aload_n 0, 1) := by decide +kernel
theorem d_284_1 : decode (mth 284).2.1 1 = .ok (.getfield 46, 3) := by decide +kernel
theorem d_284_4 : decode (mth 284).2.1 4 = .ok (.iload_n 1, 1) := by decide +kernel
theorem d_284_5 : decode (mth 284).2.1 5 = .ok (.iaload, 1) := by decide +kernel
theorem d_284_6 : decode (mth 284).2.1 6 = .ok (.ifCond .eq 26, 3) := by decide +kernel
theorem d_284_9 : decode (mth 284).2.1 9 = .ok (.aload_n 0, 1) := by decide +kernel
theorem d_284_10 : decode (mth 284).2.1 10 = .ok (.getfield 46, 3) := by decide +kernel
theorem d_284_13 : decode (mth 284).2.1 13 = .ok (.iload_n 1, 1) := by decide +kernel
theorem d_284_14 : decode (mth 284).2.1 14 = .ok (.iaload, 1) := by decide +kernel
theorem d_284_15 : decode (mth 284).2.1 15 = .ok (.iconst 1, 1) := by decide +kernel
theorem d_284_16 : decode (mth 284).2.1 16 = .ok (.if_icmp .ne 20, 3) := by decide +kernel
theorem d_284_19 : decode (mth 284).2.1 19 = .ok (.aload_n 0, 1) := by decide +kernel
theorem d_284_20 : decode (mth 284).2.1 20 = .ok (.aload_n 0, 1) := by decide +kernel
theorem d_284_21 : decode (mth 284).2.1 21 = .ok (.getfield 49, 3) := by decide +kernel
theorem d_284_24 : decode (mth 284).2.1 24 = .ok (.iload_n 1, 1) := by decide +kernel
theorem d_284_25 : decode (mth 284).2.1 25 = .ok (.iaload, 1) := by decide +kernel
theorem d_284_26 : decode (mth 284).2.1 26 = .ok (.invokevirtual 144, 3) := by decide +kernel
theorem d_284_29 : decode (mth 284).2.1 29 = .ok (.ifCond .ne 7, 3) := by decide +kernel
theorem d_284_32 : decode (mth 284).2.1 32 = .ok (.iconst 1, 1) := by decide +kernel
theorem d_284_33 : decode (mth 284).2.1 33 = .ok (.goto 4, 3) := by decide +kernel
theorem d_284_36 : decode (mth 284).2.1 36 = .ok (.iconst 0, 1) := by decide +kernel
theorem d_284_37 : decode (mth 284).2.1 37 = .ok (.ireturn, 1) := by decide +kernel
/-! 285 PlayedTruthModel.act(III)I -/
theorem d_285_0 : decode (mth 285).2.1 0 = .ok (.aload_n 0, 1) := by decide +kernel
theorem d_285_1 : decode (mth 285).2.1 1 = .ok (.iconst 0, 1) := by decide +kernel
theorem d_285_2 : decode (mth 285).2.1 2 = .ok (.putfield 402, 3) := by decide +kernel
theorem d_285_5 : decode (mth 285).2.1 5 = .ok (.aload_n 0, 1) := by decide +kernel
theorem d_285_6 : decode (mth 285).2.1 6 = .ok (.iconst 0, 1) := by decide +kernel
theorem d_285_7 : decode (mth 285).2.1 7 = .ok (.putfield 405, 3) := by decide +kernel
theorem d_285_10 : decode (mth 285).2.1 10 = .ok (.iload_n 1, 1) := by decide +kernel
theorem d_285_11 : decode (mth 285).2.1 11 = .ok (.i2l, 1) := by decide +kernel
theorem d_285_12 : decode (mth 285).2.1 12 = .ok (.lconst 0, 1) := by decide +kernel
theorem d_285_13 : decode (mth 285).2.1 13 = .ok (.ldc2_w 347, 3) := by decide +kernel
theorem d_285_16 : decode (mth 285).2.1 16 = .ok (.invokestatic 58, 3) := by decide +kernel
theorem d_285_19 : decode (mth 285).2.1 19 = .ok (.ifCond .eq 33, 3) := by decide +kernel
theorem d_285_22 : decode (mth 285).2.1 22 = .ok (.iload_n 2, 1) := by decide +kernel
theorem d_285_23 : decode (mth 285).2.1 23 = .ok (.i2l, 1) := by decide +kernel
theorem d_285_24 : decode (mth 285).2.1 24 = .ok (.lconst 0, 1) := by decide +kernel
theorem d_285_25 : decode (mth 285).2.1 25 = .ok (.ldc2_w 347, 3) := by decide +kernel
theorem d_285_28 : decode (mth 285).2.1 28 = .ok (.invokestatic 58, 3) := by decide +kernel
theorem d_285_31 : decode (mth 285).2.1 31 = .ok (.ifCond .eq 21, 3) := by decide +kernel
theorem d_285_34 : decode (mth 285).2.1 34 = .ok (.aload_n 0, 1) := by decide +kernel
theorem d_285_35 : decode (mth 285).2.1 35 = .ok (.iload_n 1, 1) := by decide +kernel
theorem d_285_36 : decode (mth 285).2.1 36 = .ok (.invokevirtual 399, 3) := by decide +kernel
theorem d_285_39 : decode (mth 285).2.1 39 = .ok (.ifCond .ne 13, 3) := by decide +kernel
theorem d_285_42 : decode (mth 285).2.1 42 = .ok (.aload_n 0, 1) := by decide +kernel
theorem d_285_43 : decode (mth 285).2.1 43 = .ok (.getfield 46, 3) := by decide +kernel
theorem d_285_46 : decode (mth 285).2.1 46 = .ok (.iload_n 1, 1) := by decide +kernel
theorem d_285_47 : decode (mth 285).2.1 47 = .ok (.iaload, 1) := by decide +kernel
theorem d_285_48 : decode (mth 285).2.1 48 = .ok (.iconst 2, 1) := by decide +kernel
theorem d_285_49 : decode (mth 285).2.1 49 = .ok (.if_icmp .ne 5, 3) := by decide +kernel
theorem d_285_52 : decode (mth 285).2.1 52 = .ok (.iconst 0, 1) := by decide +kernel
theorem d_285_53 : decode (mth 285).2.1 53 = .ok (.ireturn, 1) := by decide +kernel
theorem d_285_54 : decode (mth 285).2.1 54 = .ok (.aload_n 0, 1) := by decide +kernel
theorem d_285_55 : decode (mth 285).2.1 55 = .ok (.aload_n 0, 1) := by decide +kernel
theorem d_285_56 : decode (mth 285).2.1 56 = .ok (.getfield 49, 3) := by decide +kernel
theorem d_285_59 : decode (mth 285).2.1 59 = .ok (.iload_n 1, 1) := by decide +kernel
theorem d_285_60 : decode (mth 285).2.1 60 = .ok (.iaload, 1) := by decide +kernel
theorem d_285_61 : decode (mth 285).2.1 61 = .ok (.putfield 411, 3) := by decide +kernel
theorem d_285_64 : decode (mth 285).2.1 64 = .ok (.aload_n 0, 1) := by decide +kernel
theorem d_285_65 : decode (mth 285).2.1 65 = .ok (.aload_n 0, 1) := by decide +kernel
theorem d_285_66 : decode (mth 285).2.1 66 = .ok (.getfield 411, 3) := by decide +kernel
theorem d_285_69 : decode (mth 285).2.1 69 = .ok (.iconst 0, 1) := by decide +kernel
theorem d_285_70 : decode (mth 285).2.1 70 = .ok (.invokevirtual 77, 3) := by decide +kernel
theorem d_285_73 : decode (mth 285).2.1 73 = .ok (.istore 4, 2) := by decide +kernel
theorem d_285_75 : decode (mth 285).2.1 75 = .ok (.iload_n 2, 1) := by decide +kernel
theorem d_285_76 : decode (mth 285).2.1 76 = .ok (.ifCond .ne 13, 3) := by decide +kernel
theorem d_285_79 : decode (mth 285).2.1 79 = .ok (.aload_n 0, 1) := by decide +kernel
theorem d_285_80 : decode (mth 285).2.1 80 = .ok (.iload 4, 2) := by decide +kernel
theorem d_285_82 : decode (mth 285).2.1 82 = .ok (.iload_n 3, 1) := by decide +kernel
theorem d_285_83 : decode (mth 285).2.1 83 = .ok (.invokevirtual 414, 3) := by decide +kernel
theorem d_285_86 : decode (mth 285).2.1 86 = .ok (.goto 40, 3) := by decide +kernel
theorem d_285_89 : decode (mth 285).2.1 89 = .ok (.iload_n 2, 1) := by decide +kernel
theorem d_285_90 : decode (mth 285).2.1 90 = .ok (.iconst 1, 1) := by decide +kernel
theorem d_285_91 : decode (mth 285).2.1 91 = .ok (.if_icmp .ne 13, 3) := by decide +kernel
theorem d_285_94 : decode (mth 285).2.1 94 = .ok (.aload_n 0, 1) := by decide +kernel
theorem d_285_95 : decode (mth 285).2.1 95 = .ok (.iload 4, 2) := by decide +kernel
theorem d_285_97 : decode (mth 285).2.1 97 = .ok (.iload_n 3, 1) := by decide +kernel
theorem d_285_98 : decode (mth 285).2.1 98 = .ok (.invokevirtual 417, 3) := by decide +kernel
theorem d_285_101 : decode (mth 285).2.1 101 = .ok (.goto 25, 3) := by decide +kernel
theorem d_285_104 : decode (mth 285).2.1 104 = .ok (.iload_n 2, 1) := by decide +kernel
theorem d_285_105 : decode (mth 285).2.1 105 = .ok (.iconst 2, 1) := by decide +kernel
theorem d_285_106 : decode (mth 285).2.1 106 = .ok (.if_icmp .ne 13, 3) := by decide +kernel
theorem d_285_109 : decode (mth 285).2.1 109 = .ok (.aload_n 0, 1) := by decide +kernel
theorem d_285_110 : decode (mth 285).2.1 110 = .ok (.iload 4, 2) := by decide +kernel
theorem d_285_112 : decode (mth 285).2.1 112 = .ok (.iload_n 3, 1) := by decide +kernel
theorem d_285_113 : decode (mth 285).2.1 113 = .ok (.invokevirtual 420, 3) := by decide +kernel
theorem d_285_116 : decode (mth 285).2.1 116 = .ok (.goto 10, 3) := by decide +kernel
theorem d_285_119 : decode (mth 285).2.1 119 = .ok (.aload_n 0, 1) := by decide +kernel
theorem d_285_120 : decode (mth 285).2.1 120 = .ok (.iload 4, 2) := by decide +kernel
theorem d_285_122 : decode (mth 285).2.1 122 = .ok (.iload_n 3, 1) := by decide +kernel
theorem d_285_123 : decode (mth 285).2.1 123 = .ok (.invokevirtual 423, 3) := by decide +kernel
theorem d_285_126 : decode (mth 285).2.1 126 = .ok (.istore 5, 2) := by decide +kernel
theorem d_285_128 : decode (mth 285).2.1 128 = .ok (.aload_n 0, 1) := by decide +kernel
theorem d_285_129 : decode (mth 285).2.1 129 = .ok (.getfield 405, 3) := by decide +kernel
theorem d_285_132 : decode (mth 285).2.1 132 = .ok (.ifCond .eq 8, 3) := by decide +kernel
theorem d_285_135 : decode (mth 285).2.1 135 = .ok (.bipush (-15), 2) := by decide +kernel
theorem d_285_137 : decode (mth 285).2.1 137 = .ok (.goto 5, 3) := by decide +kernel
theorem d_285_140 : decode (mth 285).2.1 140 = .ok (.iload 5, 2) := by decide +kernel
theorem d_285_142 : decode (mth 285).2.1 142 = .ok (.ireturn, 1) := by decide +kernel
/-! 286 PlayedTruthModel.entersBy(II)I -/
theorem d_286_0 : decode (mth 286).2.1 0 = .ok (.iload_n 1, 1) := by decide +kernel
theorem d_286_1 : decode (mth 286).2.1 1 = .ok (.tableswitch 79 0 3 #[31, 47, 79, 63], 31) := by decide +kernel
theorem d_286_32 : decode (mth 286).2.1 32 = .ok (.aload_n 0, 1) := by decide +kernel
theorem d_286_33 : decode (mth 286).2.1 33 = .ok (.bipush 10, 2) := by decide +kernel
theorem d_286_35 : decode (mth 286).2.1 35 = .ok (.invokevirtual 408, 3) := by decide +kernel
theorem d_286_38 : decode (mth 286).2.1 38 = .ok (.iload_n 2, 1) := by decide +kernel
theorem d_286_39 : decode (mth 286).2.1 39 = .ok (.bipush 6, 2) := by decide +kernel
theorem d_286_41 : decode (mth 286).2.1 41 = .ok (.imul, 1) := by decide +kernel
theorem d_286_42 : decode (mth 286).2.1 42 = .ok (.aload_n 0, 1) := by decide +kernel
theorem d_286_43 : decode (mth 286).2.1 43 = .ok (.getfield 411, 3) := by decide +kernel
theorem d_286_46 : decode (mth 286).2.1 46 = .ok (.iadd, 1) := by decide +kernel
theorem d_286_47 : decode (mth 286).2.1 47 = .ok (.ireturn, 1) := by decide +kernel
theorem d_286_48 : decode (mth 286).2.1 48 = .ok (.aload_n 0, 1) := by decide +kernel
theorem d_286_49 : decode (mth 286).2.1 49 = .ok (.bipush 20, 2) := by decide +kernel
theorem d_286_51 : decode (mth 286).2.1 51 = .ok (.invokevirtual 408, 3) := by decide +kernel
theorem d_286_54 : decode (mth 286).2.1 54 = .ok (.aload_n 0, 1) := by decide +kernel
theorem d_286_55 : decode (mth 286).2.1 55 = .ok (.iconst 0, 1) := by decide +kernel
theorem d_286_56 : decode (mth 286).2.1 56 = .ok (.iload_n 2, 1) := by decide +kernel
theorem d_286_57 : decode (mth 286).2.1 57 = .ok (.invokevirtual 414, 3) := by decide +kernel
theorem d_286_60 : decode (mth 286).2.1 60 = .ok (.bipush 10, 2) := by decide +kernel
theorem d_286_62 : decode (mth 286).2.1 62 = .ok (.ixor, 1) := by decide +kernel
theorem d_286_63 : decode (mth 286).2.1 63 = .ok (.ireturn, 1) := by decide +kernel
theorem d_286_64 : decode (mth 286).2.1 64 = .ok (.aload_n 0, 1) := by decide +kernel
theorem d_286_65 : decode (mth 286).2.1 65 = .ok (.bipush 50, 2) := by decide +kernel
theorem d_286_67 : decode (mth 286).2.1 67 = .ok (.invokevirtual 408, 3) := by decide +kernel
theorem d_286_70 : decode (mth 286).2.1 70 = .ok (.aload_n 0, 1) := by decide +kernel
theorem d_286_71 : decode (mth 286).2.1 71 = .ok (.iconst 2, 1) := by decide +kernel
theorem d_286_72 : decode (mth 286).2.1 72 = .ok (.iload_n 2, 1) := by decide +kernel
theorem d_286_73 : decode (mth 286).2.1 73 = .ok (.bipush 7, 2) := by decide +kernel
theorem d_286_75 : decode (mth 286).2.1 75 = .ok (.iadd, 1) := by decide +kernel
theorem d_286_76 : decode (mth 286).2.1 76 = .ok (.invokevirtual 414, 3) := by decide +kernel
theorem d_286_79 : decode (mth 286).2.1 79 = .ok (.ireturn, 1) := by decide +kernel
theorem d_286_80 : decode (mth 286).2.1 80 = .ok (.aload_n 0, 1) := by decide +kernel
theorem d_286_81 : decode (mth 286).2.1 81 = .ok (.iload_n 1, 1) := by decide +kernel
theorem d_286_82 : decode (mth 286).2.1 82 = .ok (.invokestatic 101, 3) := by decide +kernel
theorem d_286_85 : decode (mth 286).2.1 85 = .ok (.iload_n 2, 1) := by decide +kernel
theorem d_286_86 : decode (mth 286).2.1 86 = .ok (.invokevirtual 414, 3) := by decide +kernel
theorem d_286_89 : decode (mth 286).2.1 89 = .ok (.ireturn, 1) := by decide +kernel
/-! 287 PlayedTruthModel.ran(I)V -/
theorem d_287_0 : decode (mth 287).2.1 0 = .ok (.aload_n 0, 1) := by decide +kernel
theorem d_287_1 : decode (mth 287).2.1 1 = .ok (.getfield 402, 3) := by decide +kernel
theorem d_287_4 : decode (mth 287).2.1 4 = .ok (.bipush 30, 2) := by decide +kernel
theorem d_287_6 : decode (mth 287).2.1 6 = .ok (.if_icmp .ge 30, 3) := by decide +kernel
theorem d_287_9 : decode (mth 287).2.1 9 = .ok (.aload_n 0, 1) := by decide +kernel
theorem d_287_10 : decode (mth 287).2.1 10 = .ok (.getfield 405, 3) := by decide +kernel
theorem d_287_13 : decode (mth 287).2.1 13 = .ok (.ifCond .ne 23, 3) := by decide +kernel
theorem d_287_16 : decode (mth 287).2.1 16 = .ok (.aload_n 0, 1) := by decide +kernel
theorem d_287_17 : decode (mth 287).2.1 17 = .ok (.getfield 55, 3) := by decide +kernel
theorem d_287_20 : decode (mth 287).2.1 20 = .ok (.aload_n 0, 1) := by decide +kernel
theorem d_287_21 : decode (mth 287).2.1 21 = .ok (.getfield 402, 3) := by decide +kernel
theorem d_287_24 : decode (mth 287).2.1 24 = .ok (.iload_n 1, 1) := by decide +kernel
theorem d_287_25 : decode (mth 287).2.1 25 = .ok (.iastore, 1) := by decide +kernel
theorem d_287_26 : decode (mth 287).2.1 26 = .ok (.aload_n 0, 1) := by decide +kernel
theorem d_287_27 : decode (mth 287).2.1 27 = .ok (.dup, 1) := by decide +kernel
theorem d_287_28 : decode (mth 287).2.1 28 = .ok (.getfield 402, 3) := by decide +kernel
theorem d_287_31 : decode (mth 287).2.1 31 = .ok (.iconst 1, 1) := by decide +kernel
theorem d_287_32 : decode (mth 287).2.1 32 = .ok (.iadd, 1) := by decide +kernel
theorem d_287_33 : decode (mth 287).2.1 33 = .ok (.putfield 402, 3) := by decide +kernel
theorem d_287_36 : decode (mth 287).2.1 36 = .ok (.return_, 1) := by decide +kernel
/-! 288 PlayedTruthModel.speaksBy(II)I -/
theorem d_288_0 : decode (mth 288).2.1 0 = .ok (.iload_n 1, 1) := by decide +kernel
theorem d_288_1 : decode (mth 288).2.1 1 = .ok (.lookupswitch 96 #[(0, 35), (2, 66), (5, 81)], 35) := by decide +kernel
theorem d_288_36 : decode (mth 288).2.1 36 = .ok (.aload_n 0, 1) := by decide +kernel
theorem d_288_37 : decode (mth 288).2.1 37 = .ok (.bipush 11, 2) := by decide +kernel
theorem d_288_39 : decode (mth 288).2.1 39 = .ok (.invokevirtual 408, 3) := by decide +kernel
theorem d_288_42 : decode (mth 288).2.1 42 = .ok (.aload_n 0, 1) := by decide +kernel
theorem d_288_43 : decode (mth 288).2.1 43 = .ok (.aload_n 0, 1) := by decide +kernel
theorem d_288_44 : decode (mth 288).2.1 44 = .ok (.aload_n 0, 1) := by decide +kernel
theorem d_288_45 : decode (mth 288).2.1 45 = .ok (.getfield 411, 3) := by decide +kernel
theorem d_288_48 : decode (mth 288).2.1 48 = .ok (.iconst 0, 1) := by decide +kernel
theorem d_288_49 : decode (mth 288).2.1 49 = .ok (.invokevirtual 77, 3) := by decide +kernel
theorem d_288_52 : decode (mth 288).2.1 52 = .ok (.iload_n 2, 1) := by decide +kernel
theorem d_288_53 : decode (mth 288).2.1 53 = .ok (.invokevirtual 414, 3) := by decide +kernel
theorem d_288_56 : decode (mth 288).2.1 56 = .ok (.aload_n 0, 1) := by decide +kernel
theorem d_288_57 : decode (mth 288).2.1 57 = .ok (.aload_n 0, 1) := by decide +kernel
theorem d_288_58 : decode (mth 288).2.1 58 = .ok (.getfield 411, 3) := by decide +kernel
theorem d_288_61 : decode (mth 288).2.1 61 = .ok (.iconst 3, 1) := by decide +kernel
theorem d_288_62 : decode (mth 288).2.1 62 = .ok (.invokevirtual 77, 3) := by decide +kernel
theorem d_288_65 : decode (mth 288).2.1 65 = .ok (.isub, 1) := by decide +kernel
theorem d_288_66 : decode (mth 288).2.1 66 = .ok (.ireturn, 1) := by decide +kernel
theorem d_288_67 : decode (mth 288).2.1 67 = .ok (.aload_n 0, 1) := by decide +kernel
theorem d_288_68 : decode (mth 288).2.1 68 = .ok (.bipush 30, 2) := by decide +kernel
theorem d_288_70 : decode (mth 288).2.1 70 = .ok (.invokevirtual 408, 3) := by decide +kernel
theorem d_288_73 : decode (mth 288).2.1 73 = .ok (.aload_n 0, 1) := by decide +kernel
theorem d_288_74 : decode (mth 288).2.1 74 = .ok (.iconst 0, 1) := by decide +kernel
theorem d_288_75 : decode (mth 288).2.1 75 = .ok (.iload_n 2, 1) := by decide +kernel
theorem d_288_76 : decode (mth 288).2.1 76 = .ok (.invokevirtual 417, 3) := by decide +kernel
theorem d_288_79 : decode (mth 288).2.1 79 = .ok (.iconst 2, 1) := by decide +kernel
theorem d_288_80 : decode (mth 288).2.1 80 = .ok (.imul, 1) := by decide +kernel
theorem d_288_81 : decode (mth 288).2.1 81 = .ok (.ireturn, 1) := by decide +kernel
theorem d_288_82 : decode (mth 288).2.1 82 = .ok (.aload_n 0, 1) := by decide +kernel
theorem d_288_83 : decode (mth 288).2.1 83 = .ok (.bipush 60, 2) := by decide +kernel
theorem d_288_85 : decode (mth 288).2.1 85 = .ok (.invokevirtual 408, 3) := by decide +kernel
theorem d_288_88 : decode (mth 288).2.1 88 = .ok (.iconst 0, 1) := by decide +kernel
theorem d_288_89 : decode (mth 288).2.1 89 = .ok (.aload_n 0, 1) := by decide +kernel
theorem d_288_90 : decode (mth 288).2.1 90 = .ok (.iconst 4, 1) := by decide +kernel
theorem d_288_91 : decode (mth 288).2.1 91 = .ok (.iload_n 2, 1) := by decide +kernel
theorem d_288_92 : decode (mth 288).2.1 92 = .ok (.invokevirtual 417, 3) := by decide +kernel
theorem d_288_95 : decode (mth 288).2.1 95 = .ok (.isub, 1) := by decide +kernel
theorem d_288_96 : decode (mth 288).2.1 96 = .ok (.ireturn, 1) := by decide +kernel
theorem d_288_97 : decode (mth 288).2.1 97 = .ok (.aload_n 0, 1) := by decide +kernel
theorem d_288_98 : decode (mth 288).2.1 98 = .ok (.iload_n 1, 1) := by decide +kernel
theorem d_288_99 : decode (mth 288).2.1 99 = .ok (.invokestatic 101, 3) := by decide +kernel
theorem d_288_102 : decode (mth 288).2.1 102 = .ok (.iload_n 2, 1) := by decide +kernel
theorem d_288_103 : decode (mth 288).2.1 103 = .ok (.invokevirtual 417, 3) := by decide +kernel
theorem d_288_106 : decode (mth 288).2.1 106 = .ok (.ireturn, 1) := by decide +kernel
/-! 289 PlayedTruthModel.halvesBy(II)I -/
theorem d_289_0 : decode (mth 289).2.1 0 = .ok (.iconst 0, 1) := by decide +kernel
theorem d_289_1 : decode (mth 289).2.1 1 = .ok (.istore_n 3, 1) := by decide +kernel
theorem d_289_2 : decode (mth 289).2.1 2 = .ok (.iload_n 1, 1) := by decide +kernel
theorem d_289_3 : decode (mth 289).2.1 3 = .ok (.lookupswitch 137 #[(0, 33), (4, 88), (5, 104)], 33) := by decide +kernel
theorem d_289_36 : decode (mth 289).2.1 36 = .ok (.aload_n 0, 1) := by decide +kernel
theorem d_289_37 : decode (mth 289).2.1 37 = .ok (.bipush 12, 2) := by decide +kernel
theorem d_289_39 : decode (mth 289).2.1 39 = .ok (.invokevirtual 408, 3) := by decide +kernel
theorem d_289_42 : decode (mth 289).2.1 42 = .ok (.aload_n 0, 1) := by decide +kernel
theorem d_289_43 : decode (mth 289).2.1 43 = .ok (.aload_n 0, 1) := by decide +kernel
theorem d_289_44 : decode (mth 289).2.1 44 = .ok (.getfield 411, 3) := by decide +kernel
theorem d_289_47 : decode (mth 289).2.1 47 = .ok (.iconst 3, 1) := by decide +kernel
theorem d_289_48 : decode (mth 289).2.1 48 = .ok (.invokevirtual 77, 3) := by decide +kernel
theorem d_289_51 : decode (mth 289).2.1 51 = .ok (.aload_n 0, 1) := by decide +kernel
theorem d_289_52 : decode (mth 289).2.1 52 = .ok (.getfield 411, 3) := by decide +kernel
theorem d_289_55 : decode (mth 289).2.1 55 = .ok (.iadd, 1) := by decide +kernel
theorem d_289_56 : decode (mth 289).2.1 56 = .ok (.iconst 3, 1) := by decide +kernel
theorem d_289_57 : decode (mth 289).2.1 57 = .ok (.isub, 1) := by decide +kernel
theorem d_289_58 : decode (mth 289).2.1 58 = .ok (.istore_n 3, 1) := by decide +kernel
theorem d_289_59 : decode (mth 289).2.1 59 = .ok (.aload_n 0, 1) := by decide +kernel
theorem d_289_60 : decode (mth 289).2.1 60 = .ok (.aload_n 0, 1) := by decide +kernel
theorem d_289_61 : decode (mth 289).2.1 61 = .ok (.getfield 405, 3) := by decide +kernel
theorem d_289_64 : decode (mth 289).2.1 64 = .ok (.ifCond .ne 7, 3) := by decide +kernel
theorem d_289_67 : decode (mth 289).2.1 67 = .ok (.iload_n 3, 1) := by decide +kernel
theorem d_289_68 : decode (mth 289).2.1 68 = .ok (.ifCond .ne 7, 3) := by decide +kernel
theorem d_289_71 : decode (mth 289).2.1 71 = .ok (.iconst 1, 1) := by decide +kernel
theorem d_289_72 : decode (mth 289).2.1 72 = .ok (.goto 4, 3) := by decide +kernel
theorem d_289_75 : decode (mth 289).2.1 75 = .ok (.iconst 0, 1) := by decide +kernel
theorem d_289_76 : decode (mth 289).2.1 76 = .ok (.putfield 405, 3) := by decide +kernel
theorem d_289_79 : decode (mth 289).2.1 79 = .ok (.iload_n 3, 1) := by decide +kernel
theorem d_289_80 : decode (mth 289).2.1 80 = .ok (.ifCond .ne 7, 3) := by decide +kernel
theorem d_289_83 : decode (mth 289).2.1 83 = .ok (.iconst 0, 1) := by decide +kernel
theorem d_289_84 : decode (mth 289).2.1 84 = .ok (.goto 6, 3) := by decide +kernel
theorem d_289_87 : decode (mth 289).2.1 87 = .ok (.iload_n 2, 1) := by decide +kernel
theorem d_289_88 : decode (mth 289).2.1 88 = .ok (.iload_n 3, 1) := by decide +kernel
theorem d_289_89 : decode (mth 289).2.1 89 = .ok (.idiv, 1) := by decide +kernel
theorem d_289_90 : decode (mth 289).2.1 90 = .ok (.ireturn, 1) := by decide +kernel
theorem d_289_91 : decode (mth 289).2.1 91 = .ok (.aload_n 0, 1) := by decide +kernel
theorem d_289_92 : decode (mth 289).2.1 92 = .ok (.bipush 40, 2) := by decide +kernel
theorem d_289_94 : decode (mth 289).2.1 94 = .ok (.invokevirtual 408, 3) := by decide +kernel
theorem d_289_97 : decode (mth 289).2.1 97 = .ok (.aload_n 0, 1) := by decide +kernel
theorem d_289_98 : decode (mth 289).2.1 98 = .ok (.iconst 0, 1) := by decide +kernel
theorem d_289_99 : decode (mth 289).2.1 99 = .ok (.iload_n 2, 1) := by decide +kernel
theorem d_289_100 : decode (mth 289).2.1 100 = .ok (.invokevirtual 420, 3) := by decide +kernel
theorem d_289_103 : decode (mth 289).2.1 103 = .ok (.bipush 6, 2) := by decide +kernel
theorem d_289_105 : decode (mth 289).2.1 105 = .ok (.iadd, 1) := by decide +kernel
theorem d_289_106 : decode (mth 289).2.1 106 = .ok (.ireturn, 1) := by decide +kernel
theorem d_289_107 : decode (mth 289).2.1 107 = .ok (.aload_n 0, 1) := by decide +kernel
theorem d_289_108 : decode (mth 289).2.1 108 = .ok (.bipush 61, 2) := by decide +kernel
theorem d_289_110 : decode (mth 289).2.1 110 = .ok (.invokevirtual 408, 3) := by decide +kernel
theorem d_289_113 : decode (mth 289).2.1 113 = .ok (.aload_n 0, 1) := by decide +kernel
theorem d_289_114 : decode (mth 289).2.1 114 = .ok (.iconst 4, 1) := by decide +kernel
theorem d_289_115 : decode (mth 289).2.1 115 = .ok (.iload_n 2, 1) := by decide +kernel
theorem d_289_116 : decode (mth 289).2.1 116 = .ok (.invokevirtual 420, 3) := by decide +kernel
theorem d_289_119 : decode (mth 289).2.1 119 = .ok (.istore_n 3, 1) := by decide +kernel
theorem d_289_120 : decode (mth 289).2.1 120 = .ok (.iload_n 3, 1) := by decide +kernel
theorem d_289_121 : decode (mth 289).2.1 121 = .ok (.aload_n 0, 1) := by decide +kernel
theorem d_289_122 : decode (mth 289).2.1 122 = .ok (.aload_n 0, 1) := by decide +kernel
theorem d_289_123 : decode (mth 289).2.1 123 = .ok (.aload_n 0, 1) := by decide +kernel
theorem d_289_124 : decode (mth 289).2.1 124 = .ok (.getfield 411, 3) := by decide +kernel
theorem d_289_127 : decode (mth 289).2.1 127 = .ok (.iconst 0, 1) := by decide +kernel
theorem d_289_128 : decode (mth 289).2.1 128 = .ok (.invokevirtual 77, 3) := by decide +kernel
theorem d_289_131 : decode (mth 289).2.1 131 = .ok (.aload_n 0, 1) := by decide +kernel
theorem d_289_132 : decode (mth 289).2.1 132 = .ok (.getfield 411, 3) := by decide +kernel
theorem d_289_135 : decode (mth 289).2.1 135 = .ok (.invokevirtual 414, 3) := by decide +kernel
theorem d_289_138 : decode (mth 289).2.1 138 = .ok (.ixor, 1) := by decide +kernel
theorem d_289_139 : decode (mth 289).2.1 139 = .ok (.ireturn, 1) := by decide +kernel
theorem d_289_140 : decode (mth 289).2.1 140 = .ok (.aload_n 0, 1) := by decide +kernel
theorem d_289_141 : decode (mth 289).2.1 141 = .ok (.iload_n 1, 1) := by decide +kernel
theorem d_289_142 : decode (mth 289).2.1 142 = .ok (.invokestatic 101, 3) := by decide +kernel
theorem d_289_145 : decode (mth 289).2.1 145 = .ok (.iload_n 2, 1) := by decide +kernel
theorem d_289_146 : decode (mth 289).2.1 146 = .ok (.invokevirtual 420, 3) := by decide +kernel
theorem d_289_149 : decode (mth 289).2.1 149 = .ok (.ireturn, 1) := by decide +kernel
/-! 290 PlayedTruthModel.exitsBy(II)I -/
theorem d_290_0 : decode (mth 290).2.1 0 = .ok (.iconst 0, 1) := by decide +kernel
theorem d_290_1 : decode (mth 290).2.1 1 = .ok (.istore_n 3, 1) := by decide +kernel
theorem d_290_2 : decode (mth 290).2.1 2 = .ok (.iload_n 1, 1) := by decide +kernel
theorem d_290_3 : decode (mth 290).2.1 3 = .ok (.lookupswitch 101 #[(0, 25), (3, 63)], 25) := by decide +kernel
theorem d_290_28 : decode (mth 290).2.1 28 = .ok (.aload_n 0, 1) := by decide +kernel
theorem d_290_29 : decode (mth 290).2.1 29 = .ok (.bipush 13, 2) := by decide +kernel
theorem d_290_31 : decode (mth 290).2.1 31 = .ok (.invokevirtual 408, 3) := by decide +kernel
theorem d_290_34 : decode (mth 290).2.1 34 = .ok (.aload_n 0, 1) := by decide +kernel
theorem d_290_35 : decode (mth 290).2.1 35 = .ok (.aload_n 0, 1) := by decide +kernel
theorem d_290_36 : decode (mth 290).2.1 36 = .ok (.aload_n 0, 1) := by decide +kernel
theorem d_290_37 : decode (mth 290).2.1 37 = .ok (.getfield 411, 3) := by decide +kernel
theorem d_290_40 : decode (mth 290).2.1 40 = .ok (.iconst 0, 1) := by decide +kernel
theorem d_290_41 : decode (mth 290).2.1 41 = .ok (.invokevirtual 77, 3) := by decide +kernel
theorem d_290_44 : decode (mth 290).2.1 44 = .ok (.iload_n 2, 1) := by decide +kernel
theorem d_290_45 : decode (mth 290).2.1 45 = .ok (.invokevirtual 417, 3) := by decide +kernel
theorem d_290_48 : decode (mth 290).2.1 48 = .ok (.istore_n 3, 1) := by decide +kernel
theorem d_290_49 : decode (mth 290).2.1 49 = .ok (.iload_n 3, 1) := by decide +kernel
theorem d_290_50 : decode (mth 290).2.1 50 = .ok (.aload_n 0, 1) := by decide +kernel
theorem d_290_51 : decode (mth 290).2.1 51 = .ok (.aload_n 0, 1) := by decide +kernel
theorem d_290_52 : decode (mth 290).2.1 52 = .ok (.aload_n 0, 1) := by decide +kernel
theorem d_290_53 : decode (mth 290).2.1 53 = .ok (.getfield 411, 3) := by decide +kernel
theorem d_290_56 : decode (mth 290).2.1 56 = .ok (.iconst 0, 1) := by decide +kernel
theorem d_290_57 : decode (mth 290).2.1 57 = .ok (.invokevirtual 77, 3) := by decide +kernel
theorem d_290_60 : decode (mth 290).2.1 60 = .ok (.iload_n 2, 1) := by decide +kernel
theorem d_290_61 : decode (mth 290).2.1 61 = .ok (.invokevirtual 420, 3) := by decide +kernel
theorem d_290_64 : decode (mth 290).2.1 64 = .ok (.iadd, 1) := by decide +kernel
theorem d_290_65 : decode (mth 290).2.1 65 = .ok (.ireturn, 1) := by decide +kernel
theorem d_290_66 : decode (mth 290).2.1 66 = .ok (.aload_n 0, 1) := by decide +kernel
theorem d_290_67 : decode (mth 290).2.1 67 = .ok (.bipush 51, 2) := by decide +kernel
theorem d_290_69 : decode (mth 290).2.1 69 = .ok (.invokevirtual 408, 3) := by decide +kernel
theorem d_290_72 : decode (mth 290).2.1 72 = .ok (.aload_n 0, 1) := by decide +kernel
theorem d_290_73 : decode (mth 290).2.1 73 = .ok (.iconst 2, 1) := by decide +kernel
theorem d_290_74 : decode (mth 290).2.1 74 = .ok (.iload_n 2, 1) := by decide +kernel
theorem d_290_75 : decode (mth 290).2.1 75 = .ok (.invokevirtual 423, 3) := by decide +kernel
theorem d_290_78 : decode (mth 290).2.1 78 = .ok (.istore_n 3, 1) := by decide +kernel
theorem d_290_79 : decode (mth 290).2.1 79 = .ok (.iload_n 3, 1) := by decide +kernel
theorem d_290_80 : decode (mth 290).2.1 80 = .ok (.aload_n 0, 1) := by decide +kernel
theorem d_290_81 : decode (mth 290).2.1 81 = .ok (.aload_n 0, 1) := by decide +kernel
theorem d_290_82 : decode (mth 290).2.1 82 = .ok (.aload_n 0, 1) := by decide +kernel
theorem d_290_83 : decode (mth 290).2.1 83 = .ok (.getfield 411, 3) := by decide +kernel
theorem d_290_86 : decode (mth 290).2.1 86 = .ok (.iconst 0, 1) := by decide +kernel
theorem d_290_87 : decode (mth 290).2.1 87 = .ok (.invokevirtual 77, 3) := by decide +kernel
theorem d_290_90 : decode (mth 290).2.1 90 = .ok (.aload_n 0, 1) := by decide +kernel
theorem d_290_91 : decode (mth 290).2.1 91 = .ok (.aload_n 0, 1) := by decide +kernel
theorem d_290_92 : decode (mth 290).2.1 92 = .ok (.getfield 411, 3) := by decide +kernel
theorem d_290_95 : decode (mth 290).2.1 95 = .ok (.iconst 3, 1) := by decide +kernel
theorem d_290_96 : decode (mth 290).2.1 96 = .ok (.invokevirtual 77, 3) := by decide +kernel
theorem d_290_99 : decode (mth 290).2.1 99 = .ok (.invokevirtual 417, 3) := by decide +kernel
theorem d_290_102 : decode (mth 290).2.1 102 = .ok (.isub, 1) := by decide +kernel
theorem d_290_103 : decode (mth 290).2.1 103 = .ok (.ireturn, 1) := by decide +kernel
theorem d_290_104 : decode (mth 290).2.1 104 = .ok (.aload_n 0, 1) := by decide +kernel
theorem d_290_105 : decode (mth 290).2.1 105 = .ok (.iload_n 1, 1) := by decide +kernel
theorem d_290_106 : decode (mth 290).2.1 106 = .ok (.invokestatic 101, 3) := by decide +kernel
theorem d_290_109 : decode (mth 290).2.1 109 = .ok (.iload_n 2, 1) := by decide +kernel
theorem d_290_110 : decode (mth 290).2.1 110 = .ok (.invokevirtual 423, 3) := by decide +kernel
theorem d_290_113 : decode (mth 290).2.1 113 = .ok (.ireturn, 1) := by decide +kernel
/-! 291 PlayedTruthModel.trace(I)I -/
theorem d_291_0 : decode (mth 291).2.1 0 = .ok (.iload_n 1, 1) := by decide +kernel
theorem d_291_1 : decode (mth 291).2.1 1 = .ok (.i2l, 1) := by decide +kernel
theorem d_291_2 : decode (mth 291).2.1 2 = .ok (.lconst 0, 1) := by decide +kernel
theorem d_291_3 : decode (mth 291).2.1 3 = .ok (.aload_n 0, 1) := by decide +kernel
theorem d_291_4 : decode (mth 291).2.1 4 = .ok (.getfield 402, 3) := by decide +kernel
theorem d_291_7 : decode (mth 291).2.1 7 = .ok (.iconst 1, 1) := by decide +kernel
theorem d_291_8 : decode (mth 291).2.1 8 = .ok (.isub, 1) := by decide +kernel
theorem d_291_9 : decode (mth 291).2.1 9 = .ok (.i2l, 1) := by decide +kernel
theorem d_291_10 : decode (mth 291).2.1 10 = .ok (.invokestatic 58, 3) := by decide +kernel
theorem d_291_13 : decode (mth 291).2.1 13 = .ok (.ifCond .eq 12, 3) := by decide +kernel
theorem d_291_16 : decode (mth 291).2.1 16 = .ok (.aload_n 0, 1) := by decide +kernel
theorem d_291_17 : decode (mth 291).2.1 17 = .ok (.getfield 55, 3) := by decide +kernel
theorem d_291_20 : decode (mth 291).2.1 20 = .ok (.iload_n 1, 1) := by decide +kernel
theorem d_291_21 : decode (mth 291).2.1 21 = .ok (.iaload, 1) := by decide +kernel
theorem d_291_22 : decode (mth 291).2.1 22 = .ok (.goto 5, 3) := by decide +kernel
theorem d_291_25 : decode (mth 291).2.1 25 = .ok (.bipush (-3), 2) := by decide +kernel
theorem d_291_27 : decode (mth 291).2.1 27 = .ok (.ireturn, 1) := by decide +kernel
/-! 292 PlayedTruthModel.many(I)I -/
theorem d_292_0 : decode (mth 292).2.1 0 = .ok (.iload_n 1, 1) := by decide +kernel
theorem d_292_1 : decode (mth 292).2.1 1 = .ok (.tableswitch 88 0 6 #[43, 50, 57, 65, 73, 78, 83], 43) := by decide +kernel
theorem d_292_44 : decode (mth 292).2.1 44 = .ok (.aload_n 0, 1) := by decide +kernel
theorem d_292_45 : decode (mth 292).2.1 45 = .ok (.getfield 7, 3) := by decide +kernel
theorem d_292_48 : decode (mth 292).2.1 48 = .ok (.iconst 0, 1) := by decide +kernel
theorem d_292_49 : decode (mth 292).2.1 49 = .ok (.iaload, 1) := by decide +kernel
theorem d_292_50 : decode (mth 292).2.1 50 = .ok (.ireturn, 1) := by decide +kernel
theorem d_292_51 : decode (mth 292).2.1 51 = .ok (.aload_n 0, 1) := by decide +kernel
theorem d_292_52 : decode (mth 292).2.1 52 = .ok (.getfield 7, 3) := by decide +kernel
theorem d_292_55 : decode (mth 292).2.1 55 = .ok (.iconst 5, 1) := by decide +kernel
theorem d_292_56 : decode (mth 292).2.1 56 = .ok (.iaload, 1) := by decide +kernel
theorem d_292_57 : decode (mth 292).2.1 57 = .ok (.ireturn, 1) := by decide +kernel
theorem d_292_58 : decode (mth 292).2.1 58 = .ok (.aload_n 0, 1) := by decide +kernel
theorem d_292_59 : decode (mth 292).2.1 59 = .ok (.invokevirtual 154, 3) := by decide +kernel
theorem d_292_62 : decode (mth 292).2.1 62 = .ok (.invokestatic 317, 3) := by decide +kernel
theorem d_292_65 : decode (mth 292).2.1 65 = .ok (.ireturn, 1) := by decide +kernel
theorem d_292_66 : decode (mth 292).2.1 66 = .ok (.aload_n 0, 1) := by decide +kernel
theorem d_292_67 : decode (mth 292).2.1 67 = .ok (.getfield 7, 3) := by decide +kernel
theorem d_292_70 : decode (mth 292).2.1 70 = .ok (.bipush 6, 2) := by decide +kernel
theorem d_292_72 : decode (mth 292).2.1 72 = .ok (.iaload, 1) := by decide +kernel
theorem d_292_73 : decode (mth 292).2.1 73 = .ok (.ireturn, 1) := by decide +kernel
theorem d_292_74 : decode (mth 292).2.1 74 = .ok (.aload_n 0, 1) := by decide +kernel
theorem d_292_75 : decode (mth 292).2.1 75 = .ok (.getfield 384, 3) := by decide +kernel
theorem d_292_78 : decode (mth 292).2.1 78 = .ok (.ireturn, 1) := by decide +kernel
theorem d_292_79 : decode (mth 292).2.1 79 = .ok (.aload_n 0, 1) := by decide +kernel
theorem d_292_80 : decode (mth 292).2.1 80 = .ok (.getfield 162, 3) := by decide +kernel
theorem d_292_83 : decode (mth 292).2.1 83 = .ok (.ireturn, 1) := by decide +kernel
theorem d_292_84 : decode (mth 292).2.1 84 = .ok (.aload_n 0, 1) := by decide +kernel
theorem d_292_85 : decode (mth 292).2.1 85 = .ok (.getfield 402, 3) := by decide +kernel
theorem d_292_88 : decode (mth 292).2.1 88 = .ok (.ireturn, 1) := by decide +kernel
theorem d_292_89 : decode (mth 292).2.1 89 = .ok (.iconst (-1), 1) := by decide +kernel
theorem d_292_90 : decode (mth 292).2.1 90 = .ok (.ireturn, 1) := by decide +kernel
/-! 293 PlayedTruthModel.keep()I -/
theorem d_293_0 : decode (mth 293).2.1 0 = .ok (.iconst 0, 1) := by decide +kernel
theorem d_293_1 : decode (mth 293).2.1 1 = .ok (.istore_n 1, 1) := by decide +kernel
theorem d_293_2 : decode (mth 293).2.1 2 = .ok (.iload_n 1, 1) := by decide +kernel
theorem d_293_3 : decode (mth 293).2.1 3 = .ok (.sipush 361, 3) := by decide +kernel
theorem d_293_6 : decode (mth 293).2.1 6 = .ok (.if_icmp .ge 21, 3) := by decide +kernel
theorem d_293_9 : decode (mth 293).2.1 9 = .ok (.aload_n 0, 1) := by decide +kernel
theorem d_293_10 : decode (mth 293).2.1 10 = .ok (.getfield 13, 3) := by decide +kernel
theorem d_293_13 : decode (mth 293).2.1 13 = .ok (.iload_n 1, 1) := by decide +kernel
theorem d_293_14 : decode (mth 293).2.1 14 = .ok (.aload_n 0, 1) := by decide +kernel
theorem d_293_15 : decode (mth 293).2.1 15 = .ok (.getfield 7, 3) := by decide +kernel
theorem d_293_18 : decode (mth 293).2.1 18 = .ok (.iload_n 1, 1) := by decide +kernel
theorem d_293_19 : decode (mth 293).2.1 19 = .ok (.iaload, 1) := by decide +kernel
theorem d_293_20 : decode (mth 293).2.1 20 = .ok (.iastore, 1) := by decide +kernel
theorem d_293_21 : decode (mth 293).2.1 21 = .ok (.iinc 1 1, 3) := by decide +kernel
theorem d_293_24 : decode (mth 293).2.1 24 = .ok (.goto (-22), 3) := by decide +kernel
theorem d_293_27 : decode (mth 293).2.1 27 = .ok (.aload_n 0, 1) := by decide +kernel
theorem d_293_28 : decode (mth 293).2.1 28 = .ok (.iconst 1, 1) := by decide +kernel
theorem d_293_29 : decode (mth 293).2.1 29 = .ok (.putfield 426, 3) := by decide +kernel
theorem d_293_32 : decode (mth 293).2.1 32 = .ok (.iconst 1, 1) := by decide +kernel
theorem d_293_33 : decode (mth 293).2.1 33 = .ok (.ireturn, 1) := by decide +kernel
/-! 294 PlayedTruthModel.again()I -/
theorem d_294_0 : decode (mth 294).2.1 0 = .ok (.aload_n 0, 1) := by decide +kernel
theorem d_294_1 : decode (mth 294).2.1 1 = .ok (.getfield 426, 3) := by decide +kernel
theorem d_294_4 : decode (mth 294).2.1 4 = .ok (.ifCond .ne 6, 3) := by decide +kernel
theorem d_294_7 : decode (mth 294).2.1 7 = .ok (.bipush (-3), 2) := by decide +kernel
theorem d_294_9 : decode (mth 294).2.1 9 = .ok (.ireturn, 1) := by decide +kernel
theorem d_294_10 : decode (mth 294).2.1 10 = .ok (.iconst 0, 1) := by decide +kernel
theorem d_294_11 : decode (mth 294).2.1 11 = .ok (.istore_n 1, 1) := by decide +kernel
theorem d_294_12 : decode (mth 294).2.1 12 = .ok (.iload_n 1, 1) := by decide +kernel
theorem d_294_13 : decode (mth 294).2.1 13 = .ok (.sipush 361, 3) := by decide +kernel
theorem d_294_16 : decode (mth 294).2.1 16 = .ok (.if_icmp .ge 21, 3) := by decide +kernel
theorem d_294_19 : decode (mth 294).2.1 19 = .ok (.aload_n 0, 1) := by decide +kernel
theorem d_294_20 : decode (mth 294).2.1 20 = .ok (.getfield 7, 3) := by decide +kernel
theorem d_294_23 : decode (mth 294).2.1 23 = .ok (.iload_n 1, 1) := by decide +kernel
theorem d_294_24 : decode (mth 294).2.1 24 = .ok (.aload_n 0, 1) := by decide +kernel
theorem d_294_25 : decode (mth 294).2.1 25 = .ok (.getfield 13, 3) := by decide +kernel
theorem d_294_28 : decode (mth 294).2.1 28 = .ok (.iload_n 1, 1) := by decide +kernel
theorem d_294_29 : decode (mth 294).2.1 29 = .ok (.iaload, 1) := by decide +kernel
theorem d_294_30 : decode (mth 294).2.1 30 = .ok (.iastore, 1) := by decide +kernel
theorem d_294_31 : decode (mth 294).2.1 31 = .ok (.iinc 1 1, 3) := by decide +kernel
theorem d_294_34 : decode (mth 294).2.1 34 = .ok (.goto (-22), 3) := by decide +kernel
theorem d_294_37 : decode (mth 294).2.1 37 = .ok (.aload_n 0, 1) := by decide +kernel
theorem d_294_38 : decode (mth 294).2.1 38 = .ok (.getfield 7, 3) := by decide +kernel
theorem d_294_41 : decode (mth 294).2.1 41 = .ok (.iconst 0, 1) := by decide +kernel
theorem d_294_42 : decode (mth 294).2.1 42 = .ok (.iaload, 1) := by decide +kernel
theorem d_294_43 : decode (mth 294).2.1 43 = .ok (.ireturn, 1) := by decide +kernel
