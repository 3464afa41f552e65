/-! 10 PlayedTruth.scene(IIII)I -/
theorem d_10_0 : decode (mth 10).2.1 0 = .ok (.iload_n 1, 1) := by decide +kernel
theorem d_10_1 : decode (mth 10).2.1 1 = .ok (.iconst 1, 1) := by decide +kernel
theorem d_10_2 : decode (mth 10).2.1 2 = .ok (.iconst 5, 1) := by decide +kernel
theorem d_10_3 : decode (mth 10).2.1 3 = .ok (.invokestatic 83, 3) := by decide +kernel
theorem d_10_6 : decode (mth 10).2.1 6 = .ok (.ifCond .eq 13, 3) := by decide +kernel
theorem d_10_9 : decode (mth 10).2.1 9 = .ok (.iload_n 2, 1) := by decide +kernel
theorem d_10_10 : decode (mth 10).2.1 10 = .ok (.iconst 0, 1) := by decide +kernel
theorem d_10_11 : decode (mth 10).2.1 11 = .ok (.bipush 99, 2) := by decide +kernel
theorem d_10_13 : decode (mth 10).2.1 13 = .ok (.invokestatic 83, 3) := by decide +kernel
theorem d_10_16 : decode (mth 10).2.1 16 = .ok (.ifCond .ne 5, 3) := by decide +kernel
theorem d_10_19 : decode (mth 10).2.1 19 = .ok (.iconst (-1), 1) := by decide +kernel
theorem d_10_20 : decode (mth 10).2.1 20 = .ok (.ireturn, 1) := by decide +kernel
theorem d_10_21 : decode (mth 10).2.1 21 = .ok (.iload_n 3, 1) := by decide +kernel
theorem d_10_22 : decode (mth 10).2.1 22 = .ok (.iconst 0, 1) := by decide +kernel
theorem d_10_23 : decode (mth 10).2.1 23 = .ok (.bipush 9, 2) := by decide +kernel
theorem d_10_25 : decode (mth 10).2.1 25 = .ok (.invokestatic 83, 3) := by decide +kernel
theorem d_10_28 : decode (mth 10).2.1 28 = .ok (.ifCond .eq 11, 3) := by decide +kernel
theorem d_10_31 : decode (mth 10).2.1 31 = .ok (.iload 4, 2) := by decide +kernel
theorem d_10_33 : decode (mth 10).2.1 33 = .ok (.invokestatic 87, 3) := by decide +kernel
theorem d_10_36 : decode (mth 10).2.1 36 = .ok (.ifCond .ne 5, 3) := by decide +kernel
theorem d_10_39 : decode (mth 10).2.1 39 = .ok (.iconst (-1), 1) := by decide +kernel
theorem d_10_40 : decode (mth 10).2.1 40 = .ok (.ireturn, 1) := by decide +kernel
theorem d_10_41 : decode (mth 10).2.1 41 = .ok (.aload_n 0, 1) := by decide +kernel
theorem d_10_42 : decode (mth 10).2.1 42 = .ok (.getfield 10, 3) := by decide +kernel
theorem d_10_45 : decode (mth 10).2.1 45 = .ok (.getfield 91, 3) := by decide +kernel
theorem d_10_48 : decode (mth 10).2.1 48 = .ok (.bipush 6, 2) := by decide +kernel
theorem d_10_50 : decode (mth 10).2.1 50 = .ok (.if_icmp .lt 6, 3) := by decide +kernel
theorem d_10_53 : decode (mth 10).2.1 53 = .ok (.bipush (-2), 2) := by decide +kernel
theorem d_10_55 : decode (mth 10).2.1 55 = .ok (.ireturn, 1) := by decide +kernel
theorem d_10_56 : decode (mth 10).2.1 56 = .ok (.aload_n 0, 1) := by decide +kernel
theorem d_10_57 : decode (mth 10).2.1 57 = .ok (.getfield 10, 3) := by decide +kernel
theorem d_10_60 : decode (mth 10).2.1 60 = .ok (.dup, 1) := by decide +kernel
theorem d_10_61 : decode (mth 10).2.1 61 = .ok (.getfield 91, 3) := by decide +kernel
theorem d_10_64 : decode (mth 10).2.1 64 = .ok (.dup_x1, 1) := by decide +kernel
theorem d_10_65 : decode (mth 10).2.1 65 = .ok (.iconst 1, 1) := by decide +kernel
theorem d_10_66 : decode (mth 10).2.1 66 = .ok (.iadd, 1) := by decide +kernel
theorem d_10_67 : decode (mth 10).2.1 67 = .ok (.putfield 91, 3) := by decide +kernel
theorem d_10_70 : decode (mth 10).2.1 70 = .ok (.istore 5, 2) := by decide +kernel
theorem d_10_72 : decode (mth 10).2.1 72 = .ok (.aload_n 0, 1) := by decide +kernel
theorem d_10_73 : decode (mth 10).2.1 73 = .ok (.getfield 10, 3) := by decide +kernel
theorem d_10_76 : decode (mth 10).2.1 76 = .ok (.getfield 94, 3) := by decide +kernel
theorem d_10_79 : decode (mth 10).2.1 79 = .ok (.iload 5, 2) := by decide +kernel
theorem d_10_81 : decode (mth 10).2.1 81 = .ok (.iload_n 1, 1) := by decide +kernel
theorem d_10_82 : decode (mth 10).2.1 82 = .ok (.iastore, 1) := by decide +kernel
theorem d_10_83 : decode (mth 10).2.1 83 = .ok (.aload_n 0, 1) := by decide +kernel
theorem d_10_84 : decode (mth 10).2.1 84 = .ok (.getfield 10, 3) := by decide +kernel
theorem d_10_87 : decode (mth 10).2.1 87 = .ok (.getfield 97, 3) := by decide +kernel
theorem d_10_90 : decode (mth 10).2.1 90 = .ok (.iload 5, 2) := by decide +kernel
theorem d_10_92 : decode (mth 10).2.1 92 = .ok (.iload 4, 2) := by decide +kernel
theorem d_10_94 : decode (mth 10).2.1 94 = .ok (.iastore, 1) := by decide +kernel
theorem d_10_95 : decode (mth 10).2.1 95 = .ok (.aload_n 0, 1) := by decide +kernel
theorem d_10_96 : decode (mth 10).2.1 96 = .ok (.getfield 19, 3) := by decide +kernel
theorem d_10_99 : decode (mth 10).2.1 99 = .ok (.getfield 100, 3) := by decide +kernel
theorem d_10_102 : decode (mth 10).2.1 102 = .ok (.iload 5, 2) := by decide +kernel
theorem d_10_104 : decode (mth 10).2.1 104 = .ok (.iload_n 2, 1) := by decide +kernel
theorem d_10_105 : decode (mth 10).2.1 105 = .ok (.iastore, 1) := by decide +kernel
theorem d_10_106 : decode (mth 10).2.1 106 = .ok (.aload_n 0, 1) := by decide +kernel
theorem d_10_107 : decode (mth 10).2.1 107 = .ok (.getfield 19, 3) := by decide +kernel
theorem d_10_110 : decode (mth 10).2.1 110 = .ok (.getfield 103, 3) := by decide +kernel
theorem d_10_113 : decode (mth 10).2.1 113 = .ok (.iload 5, 2) := by decide +kernel
theorem d_10_115 : decode (mth 10).2.1 115 = .ok (.iload_n 3, 1) := by decide +kernel
theorem d_10_116 : decode (mth 10).2.1 116 = .ok (.iastore, 1) := by decide +kernel
theorem d_10_117 : decode (mth 10).2.1 117 = .ok (.iload 5, 2) := by decide +kernel
theorem d_10_119 : decode (mth 10).2.1 119 = .ok (.ireturn, 1) := by decide +kernel
/-! 11 PlayedTruth.isIn(III)Z -/
theorem d_11_0 : decode (mth 11).2.1 0 = .ok (.iload_n 0, 1) := by decide +kernel
theorem d_11_1 : decode (mth 11).2.1 1 = .ok (.iload_n 1, 1) := by decide +kernel
theorem d_11_2 : decode (mth 11).2.1 2 = .ok (.if_icmp .lt 12, 3) := by decide +kernel
theorem d_11_5 : decode (mth 11).2.1 5 = .ok (.iload_n 0, 1) := by decide +kernel
theorem d_11_6 : decode (mth 11).2.1 6 = .ok (.iload_n 2, 1) := by decide +kernel
theorem d_11_7 : decode (mth 11).2.1 7 = .ok (.if_icmp .gt 7, 3) := by decide +kernel
theorem d_11_10 : decode (mth 11).2.1 10 = .ok (.iconst 1, 1) := by decide +kernel
theorem d_11_11 : decode (mth 11).2.1 11 = .ok (.goto 4, 3) := by decide +kernel
theorem d_11_14 : decode (mth 11).2.1 14 = .ok (.iconst 0, 1) := by decide +kernel
theorem d_11_15 : decode (mth 11).2.1 15 = .ok (.ireturn, 1) := by decide +kernel
/-! 12 PlayedTruth.isPlace(I)Z -/
theorem d_12_0 : decode (mth 12).2.1 0 = .ok (.iload_n 0, 1) := by decide +kernel
theorem d_12_1 : decode (mth 12).2.1 1 = .ok (.iconst 0, 1) := by decide +kernel
theorem d_12_2 : decode (mth 12).2.1 2 = .ok (.iconst 5, 1) := by decide +kernel
theorem d_12_3 : decode (mth 12).2.1 3 = .ok (.invokestatic 83, 3) := by decide +kernel
theorem d_12_6 : decode (mth 12).2.1 6 = .ok (.ireturn, 1) := by decide +kernel
/-! 13 PlayedTruth.sceneOf(II)I -/
theorem d_13_0 : decode (mth 13).2.1 0 = .ok (.aload_n 0, 1) := by decide +kernel
theorem d_13_1 : decode (mth 13).2.1 1 = .ok (.iload_n 1, 1) := by decide +kernel
theorem d_13_2 : decode (mth 13).2.1 2 = .ok (.invokevirtual 106, 3) := by decide +kernel
theorem d_13_5 : decode (mth 13).2.1 5 = .ok (.ifCond .ne 5, 3) := by decide +kernel
theorem d_13_8 : decode (mth 13).2.1 8 = .ok (.iconst (-1), 1) := by decide +kernel
theorem d_13_9 : decode (mth 13).2.1 9 = .ok (.ireturn, 1) := by decide +kernel
theorem d_13_10 : decode (mth 13).2.1 10 = .ok (.iload_n 2, 1) := by decide +kernel
theorem d_13_11 : decode (mth 13).2.1 11 = .ok (.tableswitch 183 0 9 #[53, 63, 73, 83, 93, 110, 123, 136, 149, 170], 53) := by decide +kernel
theorem d_13_64 : decode (mth 13).2.1 64 = .ok (.aload_n 0, 1) := by decide +kernel
theorem d_13_65 : decode (mth 13).2.1 65 = .ok (.getfield 10, 3) := by decide +kernel
theorem d_13_68 : decode (mth 13).2.1 68 = .ok (.getfield 94, 3) := by decide +kernel
theorem d_13_71 : decode (mth 13).2.1 71 = .ok (.iload_n 1, 1) := by decide +kernel
theorem d_13_72 : decode (mth 13).2.1 72 = .ok (.iaload, 1) := by decide +kernel
theorem d_13_73 : decode (mth 13).2.1 73 = .ok (.ireturn, 1) := by decide +kernel
theorem d_13_74 : decode (mth 13).2.1 74 = .ok (.aload_n 0, 1) := by decide +kernel
theorem d_13_75 : decode (mth 13).2.1 75 = .ok (.getfield 19, 3) := by decide +kernel
theorem d_13_78 : decode (mth 13).2.1 78 = .ok (.getfield 100, 3) := by decide +kernel
theorem d_13_81 : decode (mth 13).2.1 81 = .ok (.iload_n 1, 1) := by decide +kernel
theorem d_13_82 : decode (mth 13).2.1 82 = .ok (.iaload, 1) := by decide +kernel
theorem d_13_83 : decode (mth 13).2.1 83 = .ok (.ireturn, 1) := by decide +kernel
theorem d_13_84 : decode (mth 13).2.1 84 = .ok (.aload_n 0, 1) := by decide +kernel
theorem d_13_85 : decode (mth 13).2.1 85 = .ok (.getfield 19, 3) := by decide +kernel
theorem d_13_88 : decode (mth 13).2.1 88 = .ok (.getfield 103, 3) := by decide +kernel
theorem d_13_91 : decode (mth 13).2.1 91 = .ok (.iload_n 1, 1) := by decide +kernel
theorem d_13_92 : decode (mth 13).2.1 92 = .ok (.iaload, 1) := by decide +kernel
theorem d_13_93 : decode (mth 13).2.1 93 = .ok (.ireturn, 1) := by decide +kernel
theorem d_13_94 : decode (mth 13).2.1 94 = .ok (.aload_n 0, 1) := by decide +kernel
theorem d_13_95 : decode (mth 13).2.1 95 = .ok (.getfield 10, 3) := by decide +kernel
theorem d_13_98 : decode (mth 13).2.1 98 = .ok (.getfield 97, 3) := by decide +kernel
theorem d_13_101 : decode (mth 13).2.1 101 = .ok (.iload_n 1, 1) := by decide +kernel
theorem d_13_102 : decode (mth 13).2.1 102 = .ok (.iaload, 1) := by decide +kernel
theorem d_13_103 : decode (mth 13).2.1 103 = .ok (.ireturn, 1) := by decide +kernel
theorem d_13_104 : decode (mth 13).2.1 104 = .ok (.aload_n 0, 1) := by decide +kernel
theorem d_13_105 : decode (mth 13).2.1 105 = .ok (.getfield 19, 3) := by decide +kernel
theorem d_13_108 : decode (mth 13).2.1 108 = .ok (.iload_n 1, 1) := by decide +kernel
theorem d_13_109 : decode (mth 13).2.1 109 = .ok (.invokevirtual 109, 3) := by decide +kernel
theorem d_13_112 : decode (mth 13).2.1 112 = .ok (.ifCond .eq 7, 3) := by decide +kernel
theorem d_13_115 : decode (mth 13).2.1 115 = .ok (.iconst 1, 1) := by decide +kernel
theorem d_13_116 : decode (mth 13).2.1 116 = .ok (.goto 4, 3) := by decide +kernel
theorem d_13_119 : decode (mth 13).2.1 119 = .ok (.iconst 0, 1) := by decide +kernel
theorem d_13_120 : decode (mth 13).2.1 120 = .ok (.ireturn, 1) := by decide +kernel
theorem d_13_121 : decode (mth 13).2.1 121 = .ok (.aload_n 0, 1) := by decide +kernel
theorem d_13_122 : decode (mth 13).2.1 122 = .ok (.getfield 10, 3) := by decide +kernel
theorem d_13_125 : decode (mth 13).2.1 125 = .ok (.aload_n 0, 1) := by decide +kernel
theorem d_13_126 : decode (mth 13).2.1 126 = .ok (.getfield 19, 3) := by decide +kernel
theorem d_13_129 : decode (mth 13).2.1 129 = .ok (.iload_n 1, 1) := by decide +kernel
theorem d_13_130 : decode (mth 13).2.1 130 = .ok (.invokevirtual 112, 3) := by decide +kernel
theorem d_13_133 : decode (mth 13).2.1 133 = .ok (.ireturn, 1) := by decide +kernel
theorem d_13_134 : decode (mth 13).2.1 134 = .ok (.aload_n 0, 1) := by decide +kernel
theorem d_13_135 : decode (mth 13).2.1 135 = .ok (.getfield 10, 3) := by decide +kernel
theorem d_13_138 : decode (mth 13).2.1 138 = .ok (.aload_n 0, 1) := by decide +kernel
theorem d_13_139 : decode (mth 13).2.1 139 = .ok (.getfield 19, 3) := by decide +kernel
theorem d_13_142 : decode (mth 13).2.1 142 = .ok (.iload_n 1, 1) := by decide +kernel
theorem d_13_143 : decode (mth 13).2.1 143 = .ok (.invokevirtual 116, 3) := by decide +kernel
theorem d_13_146 : decode (mth 13).2.1 146 = .ok (.ireturn, 1) := by decide +kernel
theorem d_13_147 : decode (mth 13).2.1 147 = .ok (.aload_n 0, 1) := by decide +kernel
theorem d_13_148 : decode (mth 13).2.1 148 = .ok (.getfield 10, 3) := by decide +kernel
theorem d_13_151 : decode (mth 13).2.1 151 = .ok (.aload_n 0, 1) := by decide +kernel
theorem d_13_152 : decode (mth 13).2.1 152 = .ok (.getfield 19, 3) := by decide +kernel
theorem d_13_155 : decode (mth 13).2.1 155 = .ok (.iload_n 1, 1) := by decide +kernel
theorem d_13_156 : decode (mth 13).2.1 156 = .ok (.invokevirtual 119, 3) := by decide +kernel
theorem d_13_159 : decode (mth 13).2.1 159 = .ok (.ireturn, 1) := by decide +kernel
theorem d_13_160 : decode (mth 13).2.1 160 = .ok (.aload_n 0, 1) := by decide +kernel
theorem d_13_161 : decode (mth 13).2.1 161 = .ok (.getfield 10, 3) := by decide +kernel
theorem d_13_164 : decode (mth 13).2.1 164 = .ok (.aload_n 0, 1) := by decide +kernel
theorem d_13_165 : decode (mth 13).2.1 165 = .ok (.getfield 19, 3) := by decide +kernel
theorem d_13_168 : decode (mth 13).2.1 168 = .ok (.iload_n 1, 1) := by decide +kernel
theorem d_13_169 : decode (mth 13).2.1 169 = .ok (.invokevirtual 122, 3) := by decide +kernel
theorem d_13_172 : decode (mth 13).2.1 172 = .ok (.ifCond .eq 7, 3) := by decide +kernel
theorem d_13_175 : decode (mth 13).2.1 175 = .ok (.iconst 1, 1) := by decide +kernel
theorem d_13_176 : decode (mth 13).2.1 176 = .ok (.goto 4, 3) := by decide +kernel
theorem d_13_179 : decode (mth 13).2.1 179 = .ok (.iconst 0, 1) := by decide +kernel
theorem d_13_180 : decode (mth 13).2.1 180 = .ok (.ireturn, 1) := by decide +kernel
theorem d_13_181 : decode (mth 13).2.1 181 = .ok (.aload_n 0, 1) := by decide +kernel
theorem d_13_182 : decode (mth 13).2.1 182 = .ok (.getfield 10, 3) := by decide +kernel
theorem d_13_185 : decode (mth 13).2.1 185 = .ok (.aload_n 0, 1) := by decide +kernel
theorem d_13_186 : decode (mth 13).2.1 186 = .ok (.getfield 19, 3) := by decide +kernel
theorem d_13_189 : decode (mth 13).2.1 189 = .ok (.iload_n 1, 1) := by decide +kernel
theorem d_13_190 : decode (mth 13).2.1 190 = .ok (.invokevirtual 126, 3) := by decide +kernel
theorem d_13_193 : decode (mth 13).2.1 193 = .ok (.ireturn, 1) := by decide +kernel
theorem d_13_194 : decode (mth 13).2.1 194 = .ok (.iconst (-1), 1) := by decide +kernel
theorem d_13_195 : decode (mth 13).2.1 195 = .ok (.ireturn, 1) := by decide +kernel
/-! 14 PlayedTruth.isScene(I)Z -/
theorem d_14_0 : decode (mth 14).2.1 0 = .ok (.iload_n 1, 1) := by decide +kernel
theorem d_14_1 : decode (mth 14).2.1 1 = .ok (.iconst 0, 1) := by decide +kernel
theorem d_14_2 : decode (mth 14).2.1 2 = .ok (.aload_n 0, 1) := by decide +kernel
theorem d_14_3 : decode (mth 14).2.1 3 = .ok (.getfield 10, 3) := by decide +kernel
theorem d_14_6 : decode (mth 14).2.1 6 = .ok (.getfield 91, 3) := by decide +kernel
theorem d_14_9 : decode (mth 14).2.1 9 = .ok (.iconst 1, 1) := by decide +kernel
theorem d_14_10 : decode (mth 14).2.1 10 = .ok (.isub, 1) := by decide +kernel
theorem d_14_11 : decode (mth 14).2.1 11 = .ok (.invokestatic 83, 3) := by decide +kernel
theorem d_14_14 : decode (mth 14).2.1 14 = .ok (.ireturn, 1) := by decide +kernel
/-! 28 PlayedTruth.change(III)I -/
theorem d_28_0 : decode (mth 28).2.1 0 = .ok (.aload_n 0, 1) := by decide +kernel
theorem d_28_1 : decode (mth 28).2.1 1 = .ok (.iload_n 1, 1) := by decide +kernel
theorem d_28_2 : decode (mth 28).2.1 2 = .ok (.invokevirtual 106, 3) := by decide +kernel
theorem d_28_5 : decode (mth 28).2.1 5 = .ok (.ifCond .ne 5, 3) := by decide +kernel
theorem d_28_8 : decode (mth 28).2.1 8 = .ok (.iconst (-1), 1) := by decide +kernel
theorem d_28_9 : decode (mth 28).2.1 9 = .ok (.ireturn, 1) := by decide +kernel
theorem d_28_10 : decode (mth 28).2.1 10 = .ok (.iload_n 2, 1) := by decide +kernel
theorem d_28_11 : decode (mth 28).2.1 11 = .ok (.tableswitch 127 1 4 #[29, 56, 83, 107], 29) := by decide +kernel
theorem d_28_40 : decode (mth 28).2.1 40 = .ok (.iload_n 3, 1) := by decide +kernel
theorem d_28_41 : decode (mth 28).2.1 41 = .ok (.iconst 0, 1) := by decide +kernel
theorem d_28_42 : decode (mth 28).2.1 42 = .ok (.bipush 99, 2) := by decide +kernel
theorem d_28_44 : decode (mth 28).2.1 44 = .ok (.invokestatic 83, 3) := by decide +kernel
theorem d_28_47 : decode (mth 28).2.1 47 = .ok (.ifCond .eq 18, 3) := by decide +kernel
theorem d_28_50 : decode (mth 28).2.1 50 = .ok (.aload_n 0, 1) := by decide +kernel
theorem d_28_51 : decode (mth 28).2.1 51 = .ok (.getfield 19, 3) := by decide +kernel
theorem d_28_54 : decode (mth 28).2.1 54 = .ok (.getfield 100, 3) := by decide +kernel
theorem d_28_57 : decode (mth 28).2.1 57 = .ok (.iload_n 1, 1) := by decide +kernel
theorem d_28_58 : decode (mth 28).2.1 58 = .ok (.iload_n 3, 1) := by decide +kernel
theorem d_28_59 : decode (mth 28).2.1 59 = .ok (.invokestatic 129, 3) := by decide +kernel
theorem d_28_62 : decode (mth 28).2.1 62 = .ok (.goto 4, 3) := by decide +kernel
theorem d_28_65 : decode (mth 28).2.1 65 = .ok (.iconst (-1), 1) := by decide +kernel
theorem d_28_66 : decode (mth 28).2.1 66 = .ok (.ireturn, 1) := by decide +kernel
theorem d_28_67 : decode (mth 28).2.1 67 = .ok (.iload_n 3, 1) := by decide +kernel
theorem d_28_68 : decode (mth 28).2.1 68 = .ok (.iconst 0, 1) := by decide +kernel
theorem d_28_69 : decode (mth 28).2.1 69 = .ok (.bipush 9, 2) := by decide +kernel
theorem d_28_71 : decode (mth 28).2.1 71 = .ok (.invokestatic 83, 3) := by decide +kernel
theorem d_28_74 : decode (mth 28).2.1 74 = .ok (.ifCond .eq 18, 3) := by decide +kernel
theorem d_28_77 : decode (mth 28).2.1 77 = .ok (.aload_n 0, 1) := by decide +kernel
theorem d_28_78 : decode (mth 28).2.1 78 = .ok (.getfield 19, 3) := by decide +kernel
theorem d_28_81 : decode (mth 28).2.1 81 = .ok (.getfield 103, 3) := by decide +kernel
theorem d_28_84 : decode (mth 28).2.1 84 = .ok (.iload_n 1, 1) := by decide +kernel
theorem d_28_85 : decode (mth 28).2.1 85 = .ok (.iload_n 3, 1) := by decide +kernel
theorem d_28_86 : decode (mth 28).2.1 86 = .ok (.invokestatic 129, 3) := by decide +kernel
theorem d_28_89 : decode (mth 28).2.1 89 = .ok (.goto 4, 3) := by decide +kernel
theorem d_28_92 : decode (mth 28).2.1 92 = .ok (.iconst (-1), 1) := by decide +kernel
theorem d_28_93 : decode (mth 28).2.1 93 = .ok (.ireturn, 1) := by decide +kernel
theorem d_28_94 : decode (mth 28).2.1 94 = .ok (.iload_n 3, 1) := by decide +kernel
theorem d_28_95 : decode (mth 28).2.1 95 = .ok (.invokestatic 87, 3) := by decide +kernel
theorem d_28_98 : decode (mth 28).2.1 98 = .ok (.ifCond .eq 18, 3) := by decide +kernel
theorem d_28_101 : decode (mth 28).2.1 101 = .ok (.aload_n 0, 1) := by decide +kernel
theorem d_28_102 : decode (mth 28).2.1 102 = .ok (.getfield 10, 3) := by decide +kernel
theorem d_28_105 : decode (mth 28).2.1 105 = .ok (.getfield 97, 3) := by decide +kernel
theorem d_28_108 : decode (mth 28).2.1 108 = .ok (.iload_n 1, 1) := by decide +kernel
theorem d_28_109 : decode (mth 28).2.1 109 = .ok (.iload_n 3, 1) := by decide +kernel
theorem d_28_110 : decode (mth 28).2.1 110 = .ok (.invokestatic 129, 3) := by decide +kernel
theorem d_28_113 : decode (mth 28).2.1 113 = .ok (.goto 4, 3) := by decide +kernel
theorem d_28_116 : decode (mth 28).2.1 116 = .ok (.iconst (-1), 1) := by decide +kernel
theorem d_28_117 : decode (mth 28).2.1 117 = .ok (.ireturn, 1) := by decide +kernel
theorem d_28_118 : decode (mth 28).2.1 118 = .ok (.iload_n 3, 1) := by decide +kernel
theorem d_28_119 : decode (mth 28).2.1 119 = .ok (.iconst 0, 1) := by decide +kernel
theorem d_28_120 : decode (mth 28).2.1 120 = .ok (.iconst 1, 1) := by decide +kernel
theorem d_28_121 : decode (mth 28).2.1 121 = .ok (.invokestatic 83, 3) := by decide +kernel
theorem d_28_124 : decode (mth 28).2.1 124 = .ok (.ifCond .eq 12, 3) := by decide +kernel
theorem d_28_127 : decode (mth 28).2.1 127 = .ok (.aload_n 0, 1) := by decide +kernel
theorem d_28_128 : decode (mth 28).2.1 128 = .ok (.iload_n 1, 1) := by decide +kernel
theorem d_28_129 : decode (mth 28).2.1 129 = .ok (.iload_n 3, 1) := by decide +kernel
theorem d_28_130 : decode (mth 28).2.1 130 = .ok (.invokevirtual 133, 3) := by decide +kernel
theorem d_28_133 : decode (mth 28).2.1 133 = .ok (.goto 4, 3) := by decide +kernel
theorem d_28_136 : decode (mth 28).2.1 136 = .ok (.iconst (-1), 1) := by decide +kernel
theorem d_28_137 : decode (mth 28).2.1 137 = .ok (.ireturn, 1) := by decide +kernel
theorem d_28_138 : decode (mth 28).2.1 138 = .ok (.iconst (-1), 1) := by decide +kernel
theorem d_28_139 : decode (mth 28).2.1 139 = .ok (.ireturn, 1) := by decide +kernel
/-! 29 PlayedTruth.put([III)I -/
theorem d_29_0 : decode (mth 29).2.1 0 = .ok (.aload_n 0, 1) := by decide +kernel
theorem d_29_1 : decode (mth 29).2.1 1 = .ok (.iload_n 1, 1) := by decide +kernel
theorem d_29_2 : decode (mth 29).2.1 2 = .ok (.iaload, 1) := by decide +kernel
theorem d_29_3 : decode (mth 29).2.1 3 = .ok (.istore_n 3, 1) := by decide +kernel
theorem d_29_4 : decode (mth 29).2.1 4 = .ok (.aload_n 0, 1) := by decide +kernel
theorem d_29_5 : decode (mth 29).2.1 5 = .ok (.iload_n 1, 1) := by decide +kernel
theorem d_29_6 : decode (mth 29).2.1 6 = .ok (.iload_n 2, 1) := by decide +kernel
theorem d_29_7 : decode (mth 29).2.1 7 = .ok (.iastore, 1) := by decide +kernel
theorem d_29_8 : decode (mth 29).2.1 8 = .ok (.iload_n 3, 1) := by decide +kernel
theorem d_29_9 : decode (mth 29).2.1 9 = .ok (.ireturn, 1) := by decide +kernel
/-! 30 PlayedTruth.putSettled(II)I -/
theorem d_30_0 : decode (mth 30).2.1 0 = .ok (.aload_n 0, 1) := by decide +kernel
theorem d_30_1 : decode (mth 30).2.1 1 = .ok (.getfield 19, 3) := by decide +kernel
theorem d_30_4 : decode (mth 30).2.1 4 = .ok (.iload_n 1, 1) := by decide +kernel
theorem d_30_5 : decode (mth 30).2.1 5 = .ok (.invokevirtual 109, 3) := by decide +kernel
theorem d_30_8 : decode (mth 30).2.1 8 = .ok (.ifCond .eq 7, 3) := by decide +kernel
theorem d_30_11 : decode (mth 30).2.1 11 = .ok (.iconst 1, 1) := by decide +kernel
theorem d_30_12 : decode (mth 30).2.1 12 = .ok (.goto 4, 3) := by decide +kernel
theorem d_30_15 : decode (mth 30).2.1 15 = .ok (.iconst 0, 1) := by decide +kernel
theorem d_30_16 : decode (mth 30).2.1 16 = .ok (.istore_n 3, 1) := by decide +kernel
theorem d_30_17 : decode (mth 30).2.1 17 = .ok (.aload_n 0, 1) := by decide +kernel
theorem d_30_18 : decode (mth 30).2.1 18 = .ok (.getfield 19, 3) := by decide +kernel
theorem d_30_21 : decode (mth 30).2.1 21 = .ok (.aload_n 0, 1) := by decide +kernel
theorem d_30_22 : decode (mth 30).2.1 22 = .ok (.getfield 19, 3) := by decide +kernel
theorem d_30_25 : decode (mth 30).2.1 25 = .ok (.getfield 137, 3) := by decide +kernel
theorem d_30_28 : decode (mth 30).2.1 28 = .ok (.iconst 1, 1) := by decide +kernel
theorem d_30_29 : decode (mth 30).2.1 29 = .ok (.iload_n 1, 1) := by decide +kernel
theorem d_30_30 : decode (mth 30).2.1 30 = .ok (.ishl, 1) := by decide +kernel
theorem d_30_31 : decode (mth 30).2.1 31 = .ok (.iconst (-1), 1) := by decide +kernel
theorem d_30_32 : decode (mth 30).2.1 32 = .ok (.ixor, 1) := by decide +kernel
theorem d_30_33 : decode (mth 30).2.1 33 = .ok (.iand, 1) := by decide +kernel
theorem d_30_34 : decode (mth 30).2.1 34 = .ok (.iload_n 2, 1) := by decide +kernel
theorem d_30_35 : decode (mth 30).2.1 35 = .ok (.iload_n 1, 1) := by decide +kernel
theorem d_30_36 : decode (mth 30).2.1 36 = .ok (.ishl, 1) := by decide +kernel
theorem d_30_37 : decode (mth 30).2.1 37 = .ok (.ior, 1) := by decide +kernel
theorem d_30_38 : decode (mth 30).2.1 38 = .ok (.putfield 137, 3) := by decide +kernel
theorem d_30_41 : decode (mth 30).2.1 41 = .ok (.iload_n 3, 1) := by decide +kernel
theorem d_30_42 : decode (mth 30).2.1 42 = .ok (.ireturn, 1) := by decide +kernel
/-! 31 PlayedTruth.remake(II)I -/
theorem d_31_0 : decode (mth 31).2.1 0 = .ok (.aload_n 0, 1) := by decide +kernel
theorem d_31_1 : decode (mth 31).2.1 1 = .ok (.iload_n 1, 1) := by decide +kernel
theorem d_31_2 : decode (mth 31).2.1 2 = .ok (.invokevirtual 106, 3) := by decide +kernel
theorem d_31_5 : decode (mth 31).2.1 5 = .ok (.ifCond .eq 27, 3) := by decide +kernel
theorem d_31_8 : decode (mth 31).2.1 8 = .ok (.iload_n 2, 1) := by decide +kernel
theorem d_31_9 : decode (mth 31).2.1 9 = .ok (.iconst 1, 1) := by decide +kernel
theorem d_31_10 : decode (mth 31).2.1 10 = .ok (.iconst 5, 1) := by decide +kernel
theorem d_31_11 : decode (mth 31).2.1 11 = .ok (.invokestatic 83, 3) := by decide +kernel
theorem d_31_14 : decode (mth 31).2.1 14 = .ok (.ifCond .eq 18, 3) := by decide +kernel
theorem d_31_17 : decode (mth 31).2.1 17 = .ok (.aload_n 0, 1) := by decide +kernel
theorem d_31_18 : decode (mth 31).2.1 18 = .ok (.getfield 10, 3) := by decide +kernel
theorem d_31_21 : decode (mth 31).2.1 21 = .ok (.getfield 94, 3) := by decide +kernel
theorem d_31_24 : decode (mth 31).2.1 24 = .ok (.iload_n 1, 1) := by decide +kernel
theorem d_31_25 : decode (mth 31).2.1 25 = .ok (.iload_n 2, 1) := by decide +kernel
theorem d_31_26 : decode (mth 31).2.1 26 = .ok (.invokestatic 129, 3) := by decide +kernel
theorem d_31_29 : decode (mth 31).2.1 29 = .ok (.goto 4, 3) := by decide +kernel
theorem d_31_32 : decode (mth 31).2.1 32 = .ok (.iconst (-1), 1) := by decide +kernel
theorem d_31_33 : decode (mth 31).2.1 33 = .ok (.ireturn, 1) := by decide +kernel
/-! 32 PlayedTruth.house(II)I -/
theorem d_32_0 : decode (mth 32).2.1 0 = .ok (.iload_n 1, 1) := by decide +kernel
theorem d_32_1 : decode (mth 32).2.1 1 = .ok (.iconst 0, 1) := by decide +kernel
theorem d_32_2 : decode (mth 32).2.1 2 = .ok (.bipush 15, 2) := by decide +kernel
theorem d_32_4 : decode (mth 32).2.1 4 = .ok (.invokestatic 83, 3) := by decide +kernel
theorem d_32_7 : decode (mth 32).2.1 7 = .ok (.ifCond .eq 13, 3) := by decide +kernel
theorem d_32_10 : decode (mth 32).2.1 10 = .ok (.iload_n 2, 1) := by decide +kernel
theorem d_32_11 : decode (mth 32).2.1 11 = .ok (.iconst 0, 1) := by decide +kernel
theorem d_32_12 : decode (mth 32).2.1 12 = .ok (.bipush 15, 2) := by decide +kernel
theorem d_32_14 : decode (mth 32).2.1 14 = .ok (.invokestatic 83, 3) := by decide +kernel
theorem d_32_17 : decode (mth 32).2.1 17 = .ok (.ifCond .ne 5, 3) := by decide +kernel
theorem d_32_20 : decode (mth 32).2.1 20 = .ok (.iconst (-1), 1) := by decide +kernel
theorem d_32_21 : decode (mth 32).2.1 21 = .ok (.ireturn, 1) := by decide +kernel
theorem d_32_22 : decode (mth 32).2.1 22 = .ok (.aload_n 0, 1) := by decide +kernel
theorem d_32_23 : decode (mth 32).2.1 23 = .ok (.getfield 10, 3) := by decide +kernel
theorem d_32_26 : decode (mth 32).2.1 26 = .ok (.getfield 140, 3) := by decide +kernel
theorem d_32_29 : decode (mth 32).2.1 29 = .ok (.iload_n 1, 1) := by decide +kernel
theorem d_32_30 : decode (mth 32).2.1 30 = .ok (.iload_n 2, 1) := by decide +kernel
theorem d_32_31 : decode (mth 32).2.1 31 = .ok (.invokestatic 129, 3) := by decide +kernel
theorem d_32_34 : decode (mth 32).2.1 34 = .ok (.ireturn, 1) := by decide +kernel
/-! 33 PlayedTruth.place(III)I -/
theorem d_33_0 : decode (mth 33).2.1 0 = .ok (.iload_n 1, 1) := by decide +kernel
theorem d_33_1 : decode (mth 33).2.1 1 = .ok (.invokestatic 87, 3) := by decide +kernel
theorem d_33_4 : decode (mth 33).2.1 4 = .ok (.ifCond .eq 22, 3) := by decide +kernel
theorem d_33_7 : decode (mth 33).2.1 7 = .ok (.iload_n 2, 1) := by decide +kernel
theorem d_33_8 : decode (mth 33).2.1 8 = .ok (.iconst 0, 1) := by decide +kernel
theorem d_33_9 : decode (mth 33).2.1 9 = .ok (.iconst 1, 1) := by decide +kernel
theorem d_33_10 : decode (mth 33).2.1 10 = .ok (.invokestatic 83, 3) := by decide +kernel
theorem d_33_13 : decode (mth 33).2.1 13 = .ok (.ifCond .eq 13, 3) := by decide +kernel
theorem d_33_16 : decode (mth 33).2.1 16 = .ok (.iload_n 3, 1) := by decide +kernel
theorem d_33_17 : decode (mth 33).2.1 17 = .ok (.iconst 0, 1) := by decide +kernel
theorem d_33_18 : decode (mth 33).2.1 18 = .ok (.bipush 9, 2) := by decide +kernel
theorem d_33_20 : decode (mth 33).2.1 20 = .ok (.invokestatic 83, 3) := by decide +kernel
theorem d_33_23 : decode (mth 33).2.1 23 = .ok (.ifCond .ne 5, 3) := by decide +kernel
theorem d_33_26 : decode (mth 33).2.1 26 = .ok (.iconst (-1), 1) := by decide +kernel
theorem d_33_27 : decode (mth 33).2.1 27 = .ok (.ireturn, 1) := by decide +kernel
theorem d_33_28 : decode (mth 33).2.1 28 = .ok (.iload_n 2, 1) := by decide +kernel
theorem d_33_29 : decode (mth 33).2.1 29 = .ok (.ifCond .ne 13, 3) := by decide +kernel
theorem d_33_32 : decode (mth 33).2.1 32 = .ok (.aload_n 0, 1) := by decide +kernel
theorem d_33_33 : decode (mth 33).2.1 33 = .ok (.getfield 10, 3) := by decide +kernel
theorem d_33_36 : decode (mth 33).2.1 36 = .ok (.getfield 143, 3) := by decide +kernel
theorem d_33_39 : decode (mth 33).2.1 39 = .ok (.goto 10, 3) := by decide +kernel
theorem d_33_42 : decode (mth 33).2.1 42 = .ok (.aload_n 0, 1) := by decide +kernel
theorem d_33_43 : decode (mth 33).2.1 43 = .ok (.getfield 10, 3) := by decide +kernel
theorem d_33_46 : decode (mth 33).2.1 46 = .ok (.getfield 146, 3) := by decide +kernel
theorem d_33_49 : decode (mth 33).2.1 49 = .ok (.iload_n 1, 1) := by decide +kernel
theorem d_33_50 : decode (mth 33).2.1 50 = .ok (.iload_n 3, 1) := by decide +kernel
theorem d_33_51 : decode (mth 33).2.1 51 = .ok (.invokestatic 129, 3) := by decide +kernel
theorem d_33_54 : decode (mth 33).2.1 54 = .ok (.ireturn, 1) := by decide +kernel
/-! 34 PlayedTruth.placeOf(II)I -/
theorem d_34_0 : decode (mth 34).2.1 0 = .ok (.iload_n 1, 1) := by decide +kernel
theorem d_34_1 : decode (mth 34).2.1 1 = .ok (.invokestatic 87, 3) := by decide +kernel
theorem d_34_4 : decode (mth 34).2.1 4 = .ok (.ifCond .eq 12, 3) := by decide +kernel
theorem d_34_7 : decode (mth 34).2.1 7 = .ok (.iload_n 2, 1) := by decide +kernel
theorem d_34_8 : decode (mth 34).2.1 8 = .ok (.iconst 0, 1) := by decide +kernel
theorem d_34_9 : decode (mth 34).2.1 9 = .ok (.iconst 1, 1) := by decide +kernel
theorem d_34_10 : decode (mth 34).2.1 10 = .ok (.invokestatic 83, 3) := by decide +kernel
theorem d_34_13 : decode (mth 34).2.1 13 = .ok (.ifCond .ne 5, 3) := by decide +kernel
theorem d_34_16 : decode (mth 34).2.1 16 = .ok (.iconst (-1), 1) := by decide +kernel
theorem d_34_17 : decode (mth 34).2.1 17 = .ok (.ireturn, 1) := by decide +kernel
theorem d_34_18 : decode (mth 34).2.1 18 = .ok (.iload_n 2, 1) := by decide +kernel
theorem d_34_19 : decode (mth 34).2.1 19 = .ok (.ifCond .ne 15, 3) := by decide +kernel
theorem d_34_22 : decode (mth 34).2.1 22 = .ok (.aload_n 0, 1) := by decide +kernel
theorem d_34_23 : decode (mth 34).2.1 23 = .ok (.getfield 10, 3) := by decide +kernel
theorem d_34_26 : decode (mth 34).2.1 26 = .ok (.getfield 143, 3) := by decide +kernel
theorem d_34_29 : decode (mth 34).2.1 29 = .ok (.iload_n 1, 1) := by decide +kernel
theorem d_34_30 : decode (mth 34).2.1 30 = .ok (.iaload, 1) := by decide +kernel
theorem d_34_31 : decode (mth 34).2.1 31 = .ok (.goto 12, 3) := by decide +kernel
theorem d_34_34 : decode (mth 34).2.1 34 = .ok (.aload_n 0, 1) := by decide +kernel
theorem d_34_35 : decode (mth 34).2.1 35 = .ok (.getfield 10, 3) := by decide +kernel
theorem d_34_38 : decode (mth 34).2.1 38 = .ok (.getfield 146, 3) := by decide +kernel
theorem d_34_41 : decode (mth 34).2.1 41 = .ok (.iload_n 1, 1) := by decide +kernel
theorem d_34_42 : decode (mth 34).2.1 42 = .ok (.iaload, 1) := by decide +kernel
theorem d_34_43 : decode (mth 34).2.1 43 = .ok (.ireturn, 1) := by decide +kernel
/-! 35 PlayedTruth.ends(I)I -/
theorem d_35_0 : decode (mth 35).2.1 0 = .ok (.iload_n 1, 1) := by decide +kernel
theorem d_35_1 : decode (mth 35).2.1 1 = .ok (.iconst 1, 1) := by decide +kernel
theorem d_35_2 : decode (mth 35).2.1 2 = .ok (.bipush 16, 2) := by decide +kernel
theorem d_35_4 : decode (mth 35).2.1 4 = .ok (.invokestatic 83, 3) := by decide +kernel
theorem d_35_7 : decode (mth 35).2.1 7 = .ok (.ifCond .ne 5, 3) := by decide +kernel
theorem d_35_10 : decode (mth 35).2.1 10 = .ok (.iconst (-1), 1) := by decide +kernel
theorem d_35_11 : decode (mth 35).2.1 11 = .ok (.ireturn, 1) := by decide +kernel
theorem d_35_12 : decode (mth 35).2.1 12 = .ok (.iload_n 1, 1) := by decide +kernel
theorem d_35_13 : decode (mth 35).2.1 13 = .ok (.aload_n 0, 1) := by decide +kernel
theorem d_35_14 : decode (mth 35).2.1 14 = .ok (.getfield 19, 3) := by decide +kernel
theorem d_35_17 : decode (mth 35).2.1 17 = .ok (.getfield 149, 3) := by decide +kernel
theorem d_35_20 : decode (mth 35).2.1 20 = .ok (.if_icmp .ge 6, 3) := by decide +kernel
theorem d_35_23 : decode (mth 35).2.1 23 = .ok (.bipush (-4), 2) := by decide +kernel
theorem d_35_25 : decode (mth 35).2.1 25 = .ok (.ireturn, 1) := by decide +kernel
theorem d_35_26 : decode (mth 35).2.1 26 = .ok (.aload_n 0, 1) := by decide +kernel
theorem d_35_27 : decode (mth 35).2.1 27 = .ok (.getfield 10, 3) := by decide +kernel
theorem d_35_30 : decode (mth 35).2.1 30 = .ok (.getfield 152, 3) := by decide +kernel
theorem d_35_33 : decode (mth 35).2.1 33 = .ok (.istore_n 2, 1) := by decide +kernel
theorem d_35_34 : decode (mth 35).2.1 34 = .ok (.aload_n 0, 1) := by decide +kernel
theorem d_35_35 : decode (mth 35).2.1 35 = .ok (.getfield 10, 3) := by decide +kernel
theorem d_35_38 : decode (mth 35).2.1 38 = .ok (.iload_n 1, 1) := by decide +kernel
theorem d_35_39 : decode (mth 35).2.1 39 = .ok (.putfield 152, 3) := by decide +kernel
theorem d_35_42 : decode (mth 35).2.1 42 = .ok (.iload_n 2, 1) := by decide +kernel
theorem d_35_43 : decode (mth 35).2.1 43 = .ok (.ireturn, 1) := by decide +kernel
/-! 36 PlayedTruth.anew()I -/
theorem d_36_0 : decode (mth 36).2.1 0 = .ok (.aload_n 0, 1) := by decide +kernel
theorem d_36_1 : decode (mth 36).2.1 1 = .ok (.getfield 19, 3) := by decide +kernel
theorem d_36_4 : decode (mth 36).2.1 4 = .ok (.getfield 149, 3) := by decide +kernel
theorem d_36_7 : decode (mth 36).2.1 7 = .ok (.istore_n 1, 1) := by decide +kernel
theorem d_36_8 : decode (mth 36).2.1 8 = .ok (.aload_n 0, 1) := by decide +kernel
theorem d_36_9 : decode (mth 36).2.1 9 = .ok (.getfield 19, 3) := by decide +kernel
theorem d_36_12 : decode (mth 36).2.1 12 = .ok (.iconst 0, 1) := by decide +kernel
theorem d_36_13 : decode (mth 36).2.1 13 = .ok (.putfield 149, 3) := by decide +kernel
theorem d_36_16 : decode (mth 36).2.1 16 = .ok (.aload_n 0, 1) := by decide +kernel
theorem d_36_17 : decode (mth 36).2.1 17 = .ok (.getfield 19, 3) := by decide +kernel
theorem d_36_20 : decode (mth 36).2.1 20 = .ok (.iconst 0, 1) := by decide +kernel
theorem d_36_21 : decode (mth 36).2.1 21 = .ok (.putfield 155, 3) := by decide +kernel
theorem d_36_24 : decode (mth 36).2.1 24 = .ok (.aload_n 0, 1) := by decide +kernel
theorem d_36_25 : decode (mth 36).2.1 25 = .ok (.getfield 19, 3) := by decide +kernel
theorem d_36_28 : decode (mth 36).2.1 28 = .ok (.iconst 0, 1) := by decide +kernel
theorem d_36_29 : decode (mth 36).2.1 29 = .ok (.putfield 137, 3) := by decide +kernel
theorem d_36_32 : decode (mth 36).2.1 32 = .ok (.iload_n 1, 1) := by decide +kernel
theorem d_36_33 : decode (mth 36).2.1 33 = .ok (.ireturn, 1) := by decide +kernel
/-! 37 PlayedTruth.state(I)I -/
theorem d_37_0 : decode (mth 37).2.1 0 = .ok (.iload_n 1, 1) := by decide +kernel
theorem d_37_1 : decode (mth 37).2.1 1 = .ok (.tableswitch 122 0 6 #[43, 51, 59, 67, 87, 95, 110], 43) := by decide +kernel
theorem d_37_44 : decode (mth 37).2.1 44 = .ok (.aload_n 0, 1) := by decide +kernel
theorem d_37_45 : decode (mth 37).2.1 45 = .ok (.getfield 19, 3) := by decide +kernel
theorem d_37_48 : decode (mth 37).2.1 48 = .ok (.getfield 149, 3) := by decide +kernel
theorem d_37_51 : decode (mth 37).2.1 51 = .ok (.ireturn, 1) := by decide +kernel
theorem d_37_52 : decode (mth 37).2.1 52 = .ok (.aload_n 0, 1) := by decide +kernel
theorem d_37_53 : decode (mth 37).2.1 53 = .ok (.getfield 10, 3) := by decide +kernel
theorem d_37_56 : decode (mth 37).2.1 56 = .ok (.getfield 152, 3) := by decide +kernel
theorem d_37_59 : decode (mth 37).2.1 59 = .ok (.ireturn, 1) := by decide +kernel
theorem d_37_60 : decode (mth 37).2.1 60 = .ok (.aload_n 0, 1) := by decide +kernel
theorem d_37_61 : decode (mth 37).2.1 61 = .ok (.getfield 19, 3) := by decide +kernel
theorem d_37_64 : decode (mth 37).2.1 64 = .ok (.getfield 155, 3) := by decide +kernel
theorem d_37_67 : decode (mth 37).2.1 67 = .ok (.ireturn, 1) := by decide +kernel
theorem d_37_68 : decode (mth 37).2.1 68 = .ok (.aload_n 0, 1) := by decide +kernel
theorem d_37_69 : decode (mth 37).2.1 69 = .ok (.getfield 10, 3) := by decide +kernel
theorem d_37_72 : decode (mth 37).2.1 72 = .ok (.aload_n 0, 1) := by decide +kernel
theorem d_37_73 : decode (mth 37).2.1 73 = .ok (.getfield 19, 3) := by decide +kernel
theorem d_37_76 : decode (mth 37).2.1 76 = .ok (.invokevirtual 158, 3) := by decide +kernel
theorem d_37_79 : decode (mth 37).2.1 79 = .ok (.ifCond .eq 7, 3) := by decide +kernel
theorem d_37_82 : decode (mth 37).2.1 82 = .ok (.iconst 1, 1) := by decide +kernel
theorem d_37_83 : decode (mth 37).2.1 83 = .ok (.goto 4, 3) := by decide +kernel
theorem d_37_86 : decode (mth 37).2.1 86 = .ok (.iconst 0, 1) := by decide +kernel
theorem d_37_87 : decode (mth 37).2.1 87 = .ok (.ireturn, 1) := by decide +kernel
theorem d_37_88 : decode (mth 37).2.1 88 = .ok (.aload_n 0, 1) := by decide +kernel
theorem d_37_89 : decode (mth 37).2.1 89 = .ok (.getfield 19, 3) := by decide +kernel
theorem d_37_92 : decode (mth 37).2.1 92 = .ok (.getfield 137, 3) := by decide +kernel
theorem d_37_95 : decode (mth 37).2.1 95 = .ok (.ireturn, 1) := by decide +kernel
theorem d_37_96 : decode (mth 37).2.1 96 = .ok (.aload_n 0, 1) := by decide +kernel
theorem d_37_97 : decode (mth 37).2.1 97 = .ok (.getfield 10, 3) := by decide +kernel
theorem d_37_100 : decode (mth 37).2.1 100 = .ok (.aload_n 0, 1) := by decide +kernel
theorem d_37_101 : decode (mth 37).2.1 101 = .ok (.getfield 19, 3) := by decide +kernel
theorem d_37_104 : decode (mth 37).2.1 104 = .ok (.getfield 149, 3) := by decide +kernel
theorem d_37_107 : decode (mth 37).2.1 107 = .ok (.invokevirtual 162, 3) := by decide +kernel
theorem d_37_110 : decode (mth 37).2.1 110 = .ok (.ireturn, 1) := by decide +kernel
theorem d_37_111 : decode (mth 37).2.1 111 = .ok (.aload_n 0, 1) := by decide +kernel
theorem d_37_112 : decode (mth 37).2.1 112 = .ok (.getfield 10, 3) := by decide +kernel
theorem d_37_115 : decode (mth 37).2.1 115 = .ok (.aload_n 0, 1) := by decide +kernel
theorem d_37_116 : decode (mth 37).2.1 116 = .ok (.getfield 19, 3) := by decide +kernel
theorem d_37_119 : decode (mth 37).2.1 119 = .ok (.invokevirtual 166, 3) := by decide +kernel
theorem d_37_122 : decode (mth 37).2.1 122 = .ok (.ireturn, 1) := by decide +kernel
theorem d_37_123 : decode (mth 37).2.1 123 = .ok (.iconst (-1), 1) := by decide +kernel
theorem d_37_124 : decode (mth 37).2.1 124 = .ok (.ireturn, 1) := by decide +kernel
/-! 41 PlayedTruth.feed(JI)I -/
theorem d_41_0 : decode (mth 41).2.1 0 = .ok (.iload_n 3, 1) := by decide +kernel
theorem d_41_1 : decode (mth 41).2.1 1 = .ok (.iconst 1, 1) := by decide +kernel
theorem d_41_2 : decode (mth 41).2.1 2 = .ok (.bipush 8, 2) := by decide +kernel
theorem d_41_4 : decode (mth 41).2.1 4 = .ok (.invokestatic 83, 3) := by decide +kernel
theorem d_41_7 : decode (mth 41).2.1 7 = .ok (.ifCond .ne 5, 3) := by decide +kernel
theorem d_41_10 : decode (mth 41).2.1 10 = .ok (.iconst (-1), 1) := by decide +kernel
theorem d_41_11 : decode (mth 41).2.1 11 = .ok (.ireturn, 1) := by decide +kernel
theorem d_41_12 : decode (mth 41).2.1 12 = .ok (.aload_n 0, 1) := by decide +kernel
theorem d_41_13 : decode (mth 41).2.1 13 = .ok (.getfield 33, 3) := by decide +kernel
theorem d_41_16 : decode (mth 41).2.1 16 = .ok (.iload_n 3, 1) := by decide +kernel
theorem d_41_17 : decode (mth 41).2.1 17 = .ok (.invokevirtual 170, 3) := by decide +kernel
theorem d_41_20 : decode (mth 41).2.1 20 = .ok (.ifCond .ne 6, 3) := by decide +kernel
theorem d_41_23 : decode (mth 41).2.1 23 = .ok (.bipush (-2), 2) := by decide +kernel
theorem d_41_25 : decode (mth 41).2.1 25 = .ok (.ireturn, 1) := by decide +kernel
theorem d_41_26 : decode (mth 41).2.1 26 = .ok (.aload_n 0, 1) := by decide +kernel
theorem d_41_27 : decode (mth 41).2.1 27 = .ok (.getfield 33, 3) := by decide +kernel
theorem d_41_30 : decode (mth 41).2.1 30 = .ok (.lload_n 1, 1) := by decide +kernel
theorem d_41_31 : decode (mth 41).2.1 31 = .ok (.iload_n 3, 1) := by decide +kernel
theorem d_41_32 : decode (mth 41).2.1 32 = .ok (.invokevirtual 173, 3) := by decide +kernel
theorem d_41_35 : decode (mth 41).2.1 35 = .ok (.aload_n 0, 1) := by decide +kernel
theorem d_41_36 : decode (mth 41).2.1 36 = .ok (.getfield 33, 3) := by decide +kernel
theorem d_41_39 : decode (mth 41).2.1 39 = .ok (.getfield 177, 3) := by decide +kernel
theorem d_41_42 : decode (mth 41).2.1 42 = .ok (.ireturn, 1) := by decide +kernel
/-! 44 PlayedTruth.rules()I -/
theorem d_44_0 : decode (mth 44).2.1 0 = .ok (.aload_n 0, 1) := by decide +kernel
theorem d_44_1 : decode (mth 44).2.1 1 = .ok (.getfield 33, 3) := by decide +kernel
theorem d_44_4 : decode (mth 44).2.1 4 = .ok (.invokevirtual 180, 3) := by decide +kernel
theorem d_44_7 : decode (mth 44).2.1 7 = .ok (.istore_n 1, 1) := by decide +kernel
theorem d_44_8 : decode (mth 44).2.1 8 = .ok (.iload_n 1, 1) := by decide +kernel
theorem d_44_9 : decode (mth 44).2.1 9 = .ok (.ifCond .ne 14, 3) := by decide +kernel
theorem d_44_12 : decode (mth 44).2.1 12 = .ok (.bipush (-100), 2) := by decide +kernel
theorem d_44_14 : decode (mth 44).2.1 14 = .ok (.aload_n 0, 1) := by decide +kernel
theorem d_44_15 : decode (mth 44).2.1 15 = .ok (.getfield 33, 3) := by decide +kernel
theorem d_44_18 : decode (mth 44).2.1 18 = .ok (.getfield 184, 3) := by decide +kernel
theorem d_44_21 : decode (mth 44).2.1 21 = .ok (.isub, 1) := by decide +kernel
theorem d_44_22 : decode (mth 44).2.1 22 = .ok (.ireturn, 1) := by decide +kernel
theorem d_44_23 : decode (mth 44).2.1 23 = .ok (.aload_n 0, 1) := by decide +kernel
theorem d_44_24 : decode (mth 44).2.1 24 = .ok (.getfield 10, 3) := by decide +kernel
theorem d_44_27 : decode (mth 44).2.1 27 = .ok (.getfield 187, 3) := by decide +kernel
theorem d_44_30 : decode (mth 44).2.1 30 = .ok (.aload_n 0, 1) := by decide +kernel
theorem d_44_31 : decode (mth 44).2.1 31 = .ok (.getfield 33, 3) := by decide +kernel
theorem d_44_34 : decode (mth 44).2.1 34 = .ok (.getfield 191, 3) := by decide +kernel
theorem d_44_37 : decode (mth 44).2.1 37 = .ok (.invokevirtual 194, 3) := by decide +kernel
theorem d_44_40 : decode (mth 44).2.1 40 = .ok (.aload_n 0, 1) := by decide +kernel
theorem d_44_41 : decode (mth 44).2.1 41 = .ok (.getfield 10, 3) := by decide +kernel
theorem d_44_44 : decode (mth 44).2.1 44 = .ok (.getfield 187, 3) := by decide +kernel
theorem d_44_47 : decode (mth 44).2.1 47 = .ok (.getfield 200, 3) := by decide +kernel
theorem d_44_50 : decode (mth 44).2.1 50 = .ok (.ireturn, 1) := by decide +kernel
/-! 79 PlayedTruth.night()I -/
theorem d_79_0 : decode (mth 79).2.1 0 = .ok (.aload_n 0, 1) := by decide +kernel
theorem d_79_1 : decode (mth 79).2.1 1 = .ok (.getfield 10, 3) := by decide +kernel
theorem d_79_4 : decode (mth 79).2.1 4 = .ok (.aload_n 0, 1) := by decide +kernel
theorem d_79_5 : decode (mth 79).2.1 5 = .ok (.getfield 19, 3) := by decide +kernel
theorem d_79_8 : decode (mth 79).2.1 8 = .ok (.invokevirtual 158, 3) := by decide +kernel
theorem d_79_11 : decode (mth 79).2.1 11 = .ok (.ifCond .eq 6, 3) := by decide +kernel
theorem d_79_14 : decode (mth 79).2.1 14 = .ok (.bipush (-4), 2) := by decide +kernel
theorem d_79_16 : decode (mth 79).2.1 16 = .ok (.ireturn, 1) := by decide +kernel
theorem d_79_17 : decode (mth 79).2.1 17 = .ok (.aload_n 0, 1) := by decide +kernel
theorem d_79_18 : decode (mth 79).2.1 18 = .ok (.getfield 10, 3) := by decide +kernel
theorem d_79_21 : decode (mth 79).2.1 21 = .ok (.aload_n 0, 1) := by decide +kernel
theorem d_79_22 : decode (mth 79).2.1 22 = .ok (.getfield 19, 3) := by decide +kernel
theorem d_79_25 : decode (mth 79).2.1 25 = .ok (.aload_n 0, 1) := by decide +kernel
theorem d_79_26 : decode (mth 79).2.1 26 = .ok (.getfield 10, 3) := by decide +kernel
theorem d_79_29 : decode (mth 79).2.1 29 = .ok (.aload_n 0, 1) := by decide +kernel
theorem d_79_30 : decode (mth 79).2.1 30 = .ok (.getfield 19, 3) := by decide +kernel
theorem d_79_33 : decode (mth 79).2.1 33 = .ok (.invokevirtual 203, 3) := by decide +kernel
theorem d_79_36 : decode (mth 79).2.1 36 = .ok (.invokevirtual 206, 3) := by decide +kernel
theorem d_79_39 : decode (mth 79).2.1 39 = .ok (.ireturn, 1) := by decide +kernel
/-! 85 PlayedTruth.on(I)I -/
theorem d_85_0 : decode (mth 85).2.1 0 = .ok (.iload_n 1, 1) := by decide +kernel
theorem d_85_1 : decode (mth 85).2.1 1 = .ok (.iconst 0, 1) := by decide +kernel
theorem d_85_2 : decode (mth 85).2.1 2 = .ok (.bipush 16, 2) := by decide +kernel
theorem d_85_4 : decode (mth 85).2.1 4 = .ok (.invokestatic 83, 3) := by decide +kernel
theorem d_85_7 : decode (mth 85).2.1 7 = .ok (.ifCond .eq 14, 3) := by decide +kernel
theorem d_85_10 : decode (mth 85).2.1 10 = .ok (.aload_n 0, 1) := by decide +kernel
theorem d_85_11 : decode (mth 85).2.1 11 = .ok (.getfield 42, 3) := by decide +kernel
theorem d_85_14 : decode (mth 85).2.1 14 = .ok (.iload_n 1, 1) := by decide +kernel
theorem d_85_15 : decode (mth 85).2.1 15 = .ok (.invokevirtual 209, 3) := by decide +kernel
theorem d_85_18 : decode (mth 85).2.1 18 = .ok (.goto 4, 3) := by decide +kernel
theorem d_85_21 : decode (mth 85).2.1 21 = .ok (.iconst (-1), 1) := by decide +kernel
theorem d_85_22 : decode (mth 85).2.1 22 = .ok (.ireturn, 1) := by decide +kernel
/-! 89 PlayedTruth.when(I)I -/
theorem d_89_0 : decode (mth 89).2.1 0 = .ok (.aload_n 0, 1) := by decide +kernel
theorem d_89_1 : decode (mth 89).2.1 1 = .ok (.iload_n 1, 1) := by decide +kernel
theorem d_89_2 : decode (mth 89).2.1 2 = .ok (.invokevirtual 106, 3) := by decide +kernel
theorem d_89_5 : decode (mth 89).2.1 5 = .ok (.ifCond .eq 14, 3) := by decide +kernel
theorem d_89_8 : decode (mth 89).2.1 8 = .ok (.aload_n 0, 1) := by decide +kernel
theorem d_89_9 : decode (mth 89).2.1 9 = .ok (.getfield 42, 3) := by decide +kernel
theorem d_89_12 : decode (mth 89).2.1 12 = .ok (.iload_n 1, 1) := by decide +kernel
theorem d_89_13 : decode (mth 89).2.1 13 = .ok (.invokevirtual 212, 3) := by decide +kernel
theorem d_89_16 : decode (mth 89).2.1 16 = .ok (.goto 4, 3) := by decide +kernel
theorem d_89_19 : decode (mth 89).2.1 19 = .ok (.iconst (-1), 1) := by decide +kernel
theorem d_89_20 : decode (mth 89).2.1 20 = .ok (.ireturn, 1) := by decide +kernel
/-! 91 PlayedTruth.prettyFor(I)I -/
theorem d_91_0 : decode (mth 91).2.1 0 = .ok (.aload_n 0, 1) := by decide +kernel
theorem d_91_1 : decode (mth 91).2.1 1 = .ok (.iload_n 1, 1) := by decide +kernel
theorem d_91_2 : decode (mth 91).2.1 2 = .ok (.invokevirtual 106, 3) := by decide +kernel
theorem d_91_5 : decode (mth 91).2.1 5 = .ok (.ifCond .eq 20, 3) := by decide +kernel
theorem d_91_8 : decode (mth 91).2.1 8 = .ok (.aload_n 0, 1) := by decide +kernel
theorem d_91_9 : decode (mth 91).2.1 9 = .ok (.aload_n 0, 1) := by decide +kernel
theorem d_91_10 : decode (mth 91).2.1 10 = .ok (.getfield 19, 3) := by decide +kernel
theorem d_91_13 : decode (mth 91).2.1 13 = .ok (.getfield 103, 3) := by decide +kernel
theorem d_91_16 : decode (mth 91).2.1 16 = .ok (.iload_n 1, 1) := by decide +kernel
theorem d_91_17 : decode (mth 91).2.1 17 = .ok (.bipush 9, 2) := by decide +kernel
theorem d_91_19 : decode (mth 91).2.1 19 = .ok (.invokevirtual 215, 3) := by decide +kernel
theorem d_91_22 : decode (mth 91).2.1 22 = .ok (.goto 4, 3) := by decide +kernel
theorem d_91_25 : decode (mth 91).2.1 25 = .ok (.iconst (-1), 1) := by decide +kernel
theorem d_91_26 : decode (mth 91).2.1 26 = .ok (.ireturn, 1) := by decide +kernel
/-! 92 PlayedTruth.bestSetting([III)I -/
theorem d_92_0 : decode (mth 92).2.1 0 = .ok (.aload_n 1, 1) := by decide +kernel
theorem d_92_1 : decode (mth 92).2.1 1 = .ok (.iload_n 2, 1) := by decide +kernel
theorem d_92_2 : decode (mth 92).2.1 2 = .ok (.iaload, 1) := by decide +kernel
theorem d_92_3 : decode (mth 92).2.1 3 = .ok (.istore 4, 2) := by decide +kernel
theorem d_92_5 : decode (mth 92).2.1 5 = .ok (.iconst 0, 1) := by decide +kernel
theorem d_92_6 : decode (mth 92).2.1 6 = .ok (.istore 5, 2) := by decide +kernel
theorem d_92_8 : decode (mth 92).2.1 8 = .ok (.iconst (-1), 1) := by decide +kernel
theorem d_92_9 : decode (mth 92).2.1 9 = .ok (.istore 6, 2) := by decide +kernel
theorem d_92_11 : decode (mth 92).2.1 11 = .ok (.iconst 0, 1) := by decide +kernel
theorem d_92_12 : decode (mth 92).2.1 12 = .ok (.istore 7, 2) := by decide +kernel
theorem d_92_14 : decode (mth 92).2.1 14 = .ok (.iload 7, 2) := by decide +kernel
theorem d_92_16 : decode (mth 92).2.1 16 = .ok (.iload_n 3, 1) := by decide +kernel
theorem d_92_17 : decode (mth 92).2.1 17 = .ok (.if_icmp .gt 40, 3) := by decide +kernel
theorem d_92_20 : decode (mth 92).2.1 20 = .ok (.aload_n 1, 1) := by decide +kernel
theorem d_92_21 : decode (mth 92).2.1 21 = .ok (.iload_n 2, 1) := by decide +kernel
theorem d_92_22 : decode (mth 92).2.1 22 = .ok (.iload 7, 2) := by decide +kernel
theorem d_92_24 : decode (mth 92).2.1 24 = .ok (.iastore, 1) := by decide +kernel
theorem d_92_25 : decode (mth 92).2.1 25 = .ok (.aload_n 0, 1) := by decide +kernel
theorem d_92_26 : decode (mth 92).2.1 26 = .ok (.getfield 42, 3) := by decide +kernel
theorem d_92_29 : decode (mth 92).2.1 29 = .ok (.bipush 16, 2) := by decide +kernel
theorem d_92_31 : decode (mth 92).2.1 31 = .ok (.invokevirtual 209, 3) := by decide +kernel
theorem d_92_34 : decode (mth 92).2.1 34 = .ok (.istore 8, 2) := by decide +kernel
theorem d_92_36 : decode (mth 92).2.1 36 = .ok (.iload 8, 2) := by decide +kernel
theorem d_92_38 : decode (mth 92).2.1 38 = .ok (.iload 6, 2) := by decide +kernel
theorem d_92_40 : decode (mth 92).2.1 40 = .ok (.if_icmp .le 11, 3) := by decide +kernel
theorem d_92_43 : decode (mth 92).2.1 43 = .ok (.iload 7, 2) := by decide +kernel
theorem d_92_45 : decode (mth 92).2.1 45 = .ok (.istore 5, 2) := by decide +kernel
theorem d_92_47 : decode (mth 92).2.1 47 = .ok (.iload 8, 2) := by decide +kernel
theorem d_92_49 : decode (mth 92).2.1 49 = .ok (.istore 6, 2) := by decide +kernel
theorem d_92_51 : decode (mth 92).2.1 51 = .ok (.iinc 7 1, 3) := by decide +kernel
theorem d_92_54 : decode (mth 92).2.1 54 = .ok (.goto (-40), 3) := by decide +kernel
theorem d_92_57 : decode (mth 92).2.1 57 = .ok (.aload_n 1, 1) := by decide +kernel
theorem d_92_58 : decode (mth 92).2.1 58 = .ok (.iload_n 2, 1) := by decide +kernel
theorem d_92_59 : decode (mth 92).2.1 59 = .ok (.iload 4, 2) := by decide +kernel
theorem d_92_61 : decode (mth 92).2.1 61 = .ok (.iastore, 1) := by decide +kernel
theorem d_92_62 : decode (mth 92).2.1 62 = .ok (.iload 5, 2) := by decide +kernel
theorem d_92_64 : decode (mth 92).2.1 64 = .ok (.ireturn, 1) := by decide +kernel
/-! 93 PlayedTruth.placeFor(I)I -/
theorem d_93_0 : decode (mth 93).2.1 0 = .ok (.aload_n 0, 1) := by decide +kernel
theorem d_93_1 : decode (mth 93).2.1 1 = .ok (.iload_n 1, 1) := by decide +kernel
theorem d_93_2 : decode (mth 93).2.1 2 = .ok (.invokevirtual 106, 3) := by decide +kernel
theorem d_93_5 : decode (mth 93).2.1 5 = .ok (.ifCond .eq 19, 3) := by decide +kernel
theorem d_93_8 : decode (mth 93).2.1 8 = .ok (.aload_n 0, 1) := by decide +kernel
theorem d_93_9 : decode (mth 93).2.1 9 = .ok (.aload_n 0, 1) := by decide +kernel
theorem d_93_10 : decode (mth 93).2.1 10 = .ok (.getfield 10, 3) := by decide +kernel
theorem d_93_13 : decode (mth 93).2.1 13 = .ok (.getfield 97, 3) := by decide +kernel
theorem d_93_16 : decode (mth 93).2.1 16 = .ok (.iload_n 1, 1) := by decide +kernel
theorem d_93_17 : decode (mth 93).2.1 17 = .ok (.iconst 5, 1) := by decide +kernel
theorem d_93_18 : decode (mth 93).2.1 18 = .ok (.invokevirtual 215, 3) := by decide +kernel
theorem d_93_21 : decode (mth 93).2.1 21 = .ok (.goto 4, 3) := by decide +kernel
theorem d_93_24 : decode (mth 93).2.1 24 = .ok (.iconst (-1), 1) := by decide +kernel
theorem d_93_25 : decode (mth 93).2.1 25 = .ok (.ireturn, 1) := by decide +kernel
/-! 94 PlayedTruth.truth(I)I -/
theorem d_94_0 : decode (mth 94).2.1 0 = .ok (.iload_n 1, 1) := by decide +kernel
theorem d_94_1 : decode (mth 94).2.1 1 = .ok (.iconst 0, 1) := by decide +kernel
theorem d_94_2 : decode (mth 94).2.1 2 = .ok (.sipush 594, 3) := by decide +kernel
theorem d_94_5 : decode (mth 94).2.1 5 = .ok (.invokestatic 83, 3) := by decide +kernel
theorem d_94_8 : decode (mth 94).2.1 8 = .ok (.ifCond .eq 14, 3) := by decide +kernel
theorem d_94_11 : decode (mth 94).2.1 11 = .ok (.aload_n 0, 1) := by decide +kernel
theorem d_94_12 : decode (mth 94).2.1 12 = .ok (.getfield 42, 3) := by decide +kernel
theorem d_94_15 : decode (mth 94).2.1 15 = .ok (.iload_n 1, 1) := by decide +kernel
theorem d_94_16 : decode (mth 94).2.1 16 = .ok (.invokevirtual 218, 3) := by decide +kernel
theorem d_94_19 : decode (mth 94).2.1 19 = .ok (.goto 4, 3) := by decide +kernel
theorem d_94_22 : decode (mth 94).2.1 22 = .ok (.iconst (-1), 1) := by decide +kernel
theorem d_94_23 : decode (mth 94).2.1 23 = .ok (.ireturn, 1) := by decide +kernel
/-! 96 PlayedTruth.props(I)I -/
theorem d_96_0 : decode (mth 96).2.1 0 = .ok (.aload_n 0, 1) := by decide +kernel
theorem d_96_1 : decode (mth 96).2.1 1 = .ok (.iload_n 1, 1) := by decide +kernel
theorem d_96_2 : decode (mth 96).2.1 2 = .ok (.invokevirtual 106, 3) := by decide +kernel
theorem d_96_5 : decode (mth 96).2.1 5 = .ok (.ifCond .ne 5, 3) := by decide +kernel
theorem d_96_8 : decode (mth 96).2.1 8 = .ok (.iconst (-1), 1) := by decide +kernel
theorem d_96_9 : decode (mth 96).2.1 9 = .ok (.ireturn, 1) := by decide +kernel
theorem d_96_10 : decode (mth 96).2.1 10 = .ok (.iconst 1, 1) := by decide +kernel
theorem d_96_11 : decode (mth 96).2.1 11 = .ok (.iload_n 1, 1) := by decide +kernel
theorem d_96_12 : decode (mth 96).2.1 12 = .ok (.ishl, 1) := by decide +kernel
theorem d_96_13 : decode (mth 96).2.1 13 = .ok (.istore_n 2, 1) := by decide +kernel
theorem d_96_14 : decode (mth 96).2.1 14 = .ok (.aload_n 0, 1) := by decide +kernel
theorem d_96_15 : decode (mth 96).2.1 15 = .ok (.getfield 10, 3) := by decide +kernel
theorem d_96_18 : decode (mth 96).2.1 18 = .ok (.getfield 97, 3) := by decide +kernel
theorem d_96_21 : decode (mth 96).2.1 21 = .ok (.iload_n 1, 1) := by decide +kernel
theorem d_96_22 : decode (mth 96).2.1 22 = .ok (.iaload, 1) := by decide +kernel
theorem d_96_23 : decode (mth 96).2.1 23 = .ok (.iconst 1, 1) := by decide +kernel
theorem d_96_24 : decode (mth 96).2.1 24 = .ok (.isub, 1) := by decide +kernel
theorem d_96_25 : decode (mth 96).2.1 25 = .ok (.istore_n 3, 1) := by decide +kernel
theorem d_96_26 : decode (mth 96).2.1 26 = .ok (.iload_n 3, 1) := by decide +kernel
theorem d_96_27 : decode (mth 96).2.1 27 = .ok (.ifCond .lt 32, 3) := by decide +kernel
theorem d_96_30 : decode (mth 96).2.1 30 = .ok (.aload_n 0, 1) := by decide +kernel
theorem d_96_31 : decode (mth 96).2.1 31 = .ok (.getfield 10, 3) := by decide +kernel
theorem d_96_34 : decode (mth 96).2.1 34 = .ok (.iload_n 3, 1) := by decide +kernel
theorem d_96_35 : decode (mth 96).2.1 35 = .ok (.invokevirtual 221, 3) := by decide +kernel
theorem d_96_38 : decode (mth 96).2.1 38 = .ok (.istore 4, 2) := by decide +kernel
theorem d_96_40 : decode (mth 96).2.1 40 = .ok (.iload 4, 2) := by decide +kernel
theorem d_96_42 : decode (mth 96).2.1 42 = .ok (.ifCond .ne 6, 3) := by decide +kernel
theorem d_96_45 : decode (mth 96).2.1 45 = .ok (.goto 14, 3) := by decide +kernel
theorem d_96_48 : decode (mth 96).2.1 48 = .ok (.iload_n 2, 1) := by decide +kernel
theorem d_96_49 : decode (mth 96).2.1 49 = .ok (.iload 4, 2) := by decide +kernel
theorem d_96_51 : decode (mth 96).2.1 51 = .ok (.ior, 1) := by decide +kernel
theorem d_96_52 : decode (mth 96).2.1 52 = .ok (.istore_n 2, 1) := by decide +kernel
theorem d_96_53 : decode (mth 96).2.1 53 = .ok (.iinc 3 (-1), 3) := by decide +kernel
theorem d_96_56 : decode (mth 96).2.1 56 = .ok (.goto (-30), 3) := by decide +kernel
theorem d_96_59 : decode (mth 96).2.1 59 = .ok (.iload_n 2, 1) := by decide +kernel
theorem d_96_60 : decode (mth 96).2.1 60 = .ok (.ireturn, 1) := by decide +kernel
/-! 98 PlayedTruth.strands(I)I -/
theorem d_98_0 : decode (mth 98).2.1 0 = .ok (.iload_n 1, 1) := by decide +kernel
theorem d_98_1 : decode (mth 98).2.1 1 = .ok (.iconst (-1), 1) := by decide +kernel
theorem d_98_2 : decode (mth 98).2.1 2 = .ok (.if_icmp .ne 8, 3) := by decide +kernel
theorem d_98_5 : decode (mth 98).2.1 5 = .ok (.aload_n 0, 1) := by decide +kernel
theorem d_98_6 : decode (mth 98).2.1 6 = .ok (.invokevirtual 224, 3) := by decide +kernel
theorem d_98_9 : decode (mth 98).2.1 9 = .ok (.ireturn, 1) := by decide +kernel
theorem d_98_10 : decode (mth 98).2.1 10 = .ok (.aload_n 0, 1) := by decide +kernel
theorem d_98_11 : decode (mth 98).2.1 11 = .ok (.iload_n 1, 1) := by decide +kernel
theorem d_98_12 : decode (mth 98).2.1 12 = .ok (.invokevirtual 106, 3) := by decide +kernel
theorem d_98_15 : decode (mth 98).2.1 15 = .ok (.ifCond .eq 11, 3) := by decide +kernel
theorem d_98_18 : decode (mth 98).2.1 18 = .ok (.aload_n 0, 1) := by decide +kernel
theorem d_98_19 : decode (mth 98).2.1 19 = .ok (.iload_n 1, 1) := by decide +kernel
theorem d_98_20 : decode (mth 98).2.1 20 = .ok (.invokevirtual 228, 3) := by decide +kernel
theorem d_98_23 : decode (mth 98).2.1 23 = .ok (.goto 4, 3) := by decide +kernel
theorem d_98_26 : decode (mth 98).2.1 26 = .ok (.iconst (-1), 1) := by decide +kernel
theorem d_98_27 : decode (mth 98).2.1 27 = .ok (.ireturn, 1) := by decide +kernel
/-! 99 PlayedTruth.countStrands()I -/
theorem d_99_0 : decode (mth 99).2.1 0 = .ok (.iconst 0, 1) := by decide +kernel
theorem d_99_1 : decode (mth 99).2.1 1 = .ok (.istore_n 1, 1) := by decide +kernel
theorem d_99_2 : decode (mth 99).2.1 2 = .ok (.aload_n 0, 1) := by decide +kernel
theorem d_99_3 : decode (mth 99).2.1 3 = .ok (.getfield 19, 3) := by decide +kernel
theorem d_99_6 : decode (mth 99).2.1 6 = .ok (.getfield 137, 3) := by decide +kernel
theorem d_99_9 : decode (mth 99).2.1 9 = .ok (.istore_n 2, 1) := by decide +kernel
theorem d_99_10 : decode (mth 99).2.1 10 = .ok (.iconst 0, 1) := by decide +kernel
theorem d_99_11 : decode (mth 99).2.1 11 = .ok (.istore_n 3, 1) := by decide +kernel
theorem d_99_12 : decode (mth 99).2.1 12 = .ok (.iload_n 3, 1) := by decide +kernel
theorem d_99_13 : decode (mth 99).2.1 13 = .ok (.aload_n 0, 1) := by decide +kernel
theorem d_99_14 : decode (mth 99).2.1 14 = .ok (.getfield 10, 3) := by decide +kernel
theorem d_99_17 : decode (mth 99).2.1 17 = .ok (.getfield 91, 3) := by decide +kernel
theorem d_99_20 : decode (mth 99).2.1 20 = .ok (.if_icmp .ge 32, 3) := by decide +kernel
theorem d_99_23 : decode (mth 99).2.1 23 = .ok (.iload_n 2, 1) := by decide +kernel
theorem d_99_24 : decode (mth 99).2.1 24 = .ok (.iload_n 3, 1) := by decide +kernel
theorem d_99_25 : decode (mth 99).2.1 25 = .ok (.ishr, 1) := by decide +kernel
theorem d_99_26 : decode (mth 99).2.1 26 = .ok (.iconst 1, 1) := by decide +kernel
theorem d_99_27 : decode (mth 99).2.1 27 = .ok (.iand, 1) := by decide +kernel
theorem d_99_28 : decode (mth 99).2.1 28 = .ok (.iconst 1, 1) := by decide +kernel
theorem d_99_29 : decode (mth 99).2.1 29 = .ok (.if_icmp .ne 6, 3) := by decide +kernel
theorem d_99_32 : decode (mth 99).2.1 32 = .ok (.goto 14, 3) := by decide +kernel
theorem d_99_35 : decode (mth 99).2.1 35 = .ok (.iload_n 2, 1) := by decide +kernel
theorem d_99_36 : decode (mth 99).2.1 36 = .ok (.aload_n 0, 1) := by decide +kernel
theorem d_99_37 : decode (mth 99).2.1 37 = .ok (.iload_n 3, 1) := by decide +kernel
theorem d_99_38 : decode (mth 99).2.1 38 = .ok (.invokevirtual 228, 3) := by decide +kernel
theorem d_99_41 : decode (mth 99).2.1 41 = .ok (.ior, 1) := by decide +kernel
theorem d_99_42 : decode (mth 99).2.1 42 = .ok (.istore_n 2, 1) := by decide +kernel
theorem d_99_43 : decode (mth 99).2.1 43 = .ok (.iinc 1 1, 3) := by decide +kernel
theorem d_99_46 : decode (mth 99).2.1 46 = .ok (.iinc 3 1, 3) := by decide +kernel
theorem d_99_49 : decode (mth 99).2.1 49 = .ok (.goto (-37), 3) := by decide +kernel
theorem d_99_52 : decode (mth 99).2.1 52 = .ok (.iload_n 1, 1) := by decide +kernel
theorem d_99_53 : decode (mth 99).2.1 53 = .ok (.ireturn, 1) := by decide +kernel
/-! 100 PlayedTruth.strandOf(I)I -/
theorem d_100_0 : decode (mth 100).2.1 0 = .ok (.aload_n 0, 1) := by decide +kernel
theorem d_100_1 : decode (mth 100).2.1 1 = .ok (.getfield 19, 3) := by decide +kernel
theorem d_100_4 : decode (mth 100).2.1 4 = .ok (.iload_n 1, 1) := by decide +kernel
theorem d_100_5 : decode (mth 100).2.1 5 = .ok (.invokevirtual 109, 3) := by decide +kernel
theorem d_100_8 : decode (mth 100).2.1 8 = .ok (.ifCond .eq 5, 3) := by decide +kernel
theorem d_100_11 : decode (mth 100).2.1 11 = .ok (.iconst 0, 1) := by decide +kernel
theorem d_100_12 : decode (mth 100).2.1 12 = .ok (.ireturn, 1) := by decide +kernel
theorem d_100_13 : decode (mth 100).2.1 13 = .ok (.iconst 1, 1) := by decide +kernel
theorem d_100_14 : decode (mth 100).2.1 14 = .ok (.iload_n 1, 1) := by decide +kernel
theorem d_100_15 : decode (mth 100).2.1 15 = .ok (.ishl, 1) := by decide +kernel
theorem d_100_16 : decode (mth 100).2.1 16 = .ok (.istore_n 2, 1) := by decide +kernel
theorem d_100_17 : decode (mth 100).2.1 17 = .ok (.iconst 1, 1) := by decide +kernel
theorem d_100_18 : decode (mth 100).2.1 18 = .ok (.istore_n 3, 1) := by decide +kernel
theorem d_100_19 : decode (mth 100).2.1 19 = .ok (.iload_n 3, 1) := by decide +kernel
theorem d_100_20 : decode (mth 100).2.1 20 = .ok (.aload_n 0, 1) := by decide +kernel
theorem d_100_21 : decode (mth 100).2.1 21 = .ok (.getfield 10, 3) := by decide +kernel
theorem d_100_24 : decode (mth 100).2.1 24 = .ok (.getfield 91, 3) := by decide +kernel
theorem d_100_27 : decode (mth 100).2.1 27 = .ok (.if_icmp .ge 17, 3) := by decide +kernel
theorem d_100_30 : decode (mth 100).2.1 30 = .ok (.iload_n 2, 1) := by decide +kernel
theorem d_100_31 : decode (mth 100).2.1 31 = .ok (.aload_n 0, 1) := by decide +kernel
theorem d_100_32 : decode (mth 100).2.1 32 = .ok (.iload_n 2, 1) := by decide +kernel
theorem d_100_33 : decode (mth 100).2.1 33 = .ok (.invokevirtual 231, 3) := by decide +kernel
theorem d_100_36 : decode (mth 100).2.1 36 = .ok (.ior, 1) := by decide +kernel
theorem d_100_37 : decode (mth 100).2.1 37 = .ok (.istore_n 2, 1) := by decide +kernel
theorem d_100_38 : decode (mth 100).2.1 38 = .ok (.iinc 3 1, 3) := by decide +kernel
theorem d_100_41 : decode (mth 100).2.1 41 = .ok (.goto (-22), 3) := by decide +kernel
theorem d_100_44 : decode (mth 100).2.1 44 = .ok (.iload_n 2, 1) := by decide +kernel
theorem d_100_45 : decode (mth 100).2.1 45 = .ok (.ireturn, 1) := by decide +kernel
/-! 101 PlayedTruth.closeToAny(I)I -/
theorem d_101_0 : decode (mth 101).2.1 0 = .ok (.iconst 0, 1) := by decide +kernel
theorem d_101_1 : decode (mth 101).2.1 1 = .ok (.istore_n 2, 1) := by decide +kernel
theorem d_101_2 : decode (mth 101).2.1 2 = .ok (.iconst 0, 1) := by decide +kernel
theorem d_101_3 : decode (mth 101).2.1 3 = .ok (.istore_n 3, 1) := by decide +kernel
theorem d_101_4 : decode (mth 101).2.1 4 = .ok (.iload_n 3, 1) := by decide +kernel
theorem d_101_5 : decode (mth 101).2.1 5 = .ok (.aload_n 0, 1) := by decide +kernel
theorem d_101_6 : decode (mth 101).2.1 6 = .ok (.getfield 10, 3) := by decide +kernel
theorem d_101_9 : decode (mth 101).2.1 9 = .ok (.getfield 91, 3) := by decide +kernel
theorem d_101_12 : decode (mth 101).2.1 12 = .ok (.if_icmp .ge 65, 3) := by decide +kernel
theorem d_101_15 : decode (mth 101).2.1 15 = .ok (.iload_n 1, 1) := by decide +kernel
theorem d_101_16 : decode (mth 101).2.1 16 = .ok (.iload_n 3, 1) := by decide +kernel
theorem d_101_17 : decode (mth 101).2.1 17 = .ok (.ishr, 1) := by decide +kernel
theorem d_101_18 : decode (mth 101).2.1 18 = .ok (.iconst 1, 1) := by decide +kernel
theorem d_101_19 : decode (mth 101).2.1 19 = .ok (.iand, 1) := by decide +kernel
theorem d_101_20 : decode (mth 101).2.1 20 = .ok (.ifCond .ne 6, 3) := by decide +kernel
theorem d_101_23 : decode (mth 101).2.1 23 = .ok (.goto 48, 3) := by decide +kernel
theorem d_101_26 : decode (mth 101).2.1 26 = .ok (.iconst 0, 1) := by decide +kernel
theorem d_101_27 : decode (mth 101).2.1 27 = .ok (.istore 4, 2) := by decide +kernel
theorem d_101_29 : decode (mth 101).2.1 29 = .ok (.iload 4, 2) := by decide +kernel
theorem d_101_31 : decode (mth 101).2.1 31 = .ok (.aload_n 0, 1) := by decide +kernel
theorem d_101_32 : decode (mth 101).2.1 32 = .ok (.getfield 10, 3) := by decide +kernel
theorem d_101_35 : decode (mth 101).2.1 35 = .ok (.getfield 91, 3) := by decide +kernel
theorem d_101_38 : decode (mth 101).2.1 38 = .ok (.if_icmp .ge 33, 3) := by decide +kernel
theorem d_101_41 : decode (mth 101).2.1 41 = .ok (.aload_n 0, 1) := by decide +kernel
theorem d_101_42 : decode (mth 101).2.1 42 = .ok (.getfield 10, 3) := by decide +kernel
theorem d_101_45 : decode (mth 101).2.1 45 = .ok (.aload_n 0, 1) := by decide +kernel
theorem d_101_46 : decode (mth 101).2.1 46 = .ok (.getfield 19, 3) := by decide +kernel
theorem d_101_49 : decode (mth 101).2.1 49 = .ok (.iload_n 3, 1) := by decide +kernel
theorem d_101_50 : decode (mth 101).2.1 50 = .ok (.iload 4, 2) := by decide +kernel
theorem d_101_52 : decode (mth 101).2.1 52 = .ok (.invokevirtual 234, 3) := by decide +kernel
theorem d_101_55 : decode (mth 101).2.1 55 = .ok (.ifCond .eq 10, 3) := by decide +kernel
theorem d_101_58 : decode (mth 101).2.1 58 = .ok (.iload_n 2, 1) := by decide +kernel
theorem d_101_59 : decode (mth 101).2.1 59 = .ok (.iconst 1, 1) := by decide +kernel
theorem d_101_60 : decode (mth 101).2.1 60 = .ok (.iload 4, 2) := by decide +kernel
theorem d_101_62 : decode (mth 101).2.1 62 = .ok (.ishl, 1) := by decide +kernel
theorem d_101_63 : decode (mth 101).2.1 63 = .ok (.ior, 1) := by decide +kernel
theorem d_101_64 : decode (mth 101).2.1 64 = .ok (.istore_n 2, 1) := by decide +kernel
theorem d_101_65 : decode (mth 101).2.1 65 = .ok (.iinc 4 1, 3) := by decide +kernel
theorem d_101_68 : decode (mth 101).2.1 68 = .ok (.goto (-39), 3) := by decide +kernel
theorem d_101_71 : decode (mth 101).2.1 71 = .ok (.iinc 3 1, 3) := by decide +kernel
theorem d_101_74 : decode (mth 101).2.1 74 = .ok (.goto (-70), 3) := by decide +kernel
theorem d_101_77 : decode (mth 101).2.1 77 = .ok (.iload_n 2, 1) := by decide +kernel
theorem d_101_78 : decode (mth 101).2.1 78 = .ok (.ireturn, 1) := by decide +kernel
/-! 104 PlayedTruth.billing(I)I -/
theorem d_104_0 : decode (mth 104).2.1 0 = .ok (.iload_n 1, 1) := by decide +kernel
theorem d_104_1 : decode (mth 104).2.1 1 = .ok (.iconst 0, 1) := by decide +kernel
theorem d_104_2 : decode (mth 104).2.1 2 = .ok (.sipush 999, 3) := by decide +kernel
theorem d_104_5 : decode (mth 104).2.1 5 = .ok (.invokestatic 83, 3) := by decide +kernel
theorem d_104_8 : decode (mth 104).2.1 8 = .ok (.ifCond .ne 5, 3) := by decide +kernel
theorem d_104_11 : decode (mth 104).2.1 11 = .ok (.iconst (-1), 1) := by decide +kernel
theorem d_104_12 : decode (mth 104).2.1 12 = .ok (.ireturn, 1) := by decide +kernel
theorem d_104_13 : decode (mth 104).2.1 13 = .ok (.bipush (-3), 2) := by decide +kernel
theorem d_104_15 : decode (mth 104).2.1 15 = .ok (.istore_n 2, 1) := by decide +kernel
theorem d_104_16 : decode (mth 104).2.1 16 = .ok (.bipush 7, 2) := by decide +kernel
theorem d_104_18 : decode (mth 104).2.1 18 = .ok (.istore_n 3, 1) := by decide +kernel
theorem d_104_19 : decode (mth 104).2.1 19 = .ok (.iconst 0, 1) := by decide +kernel
theorem d_104_20 : decode (mth 104).2.1 20 = .ok (.istore 4, 2) := by decide +kernel
theorem d_104_22 : decode (mth 104).2.1 22 = .ok (.iload 4, 2) := by decide +kernel
theorem d_104_24 : decode (mth 104).2.1 24 = .ok (.iconst 1, 1) := by decide +kernel
theorem d_104_25 : decode (mth 104).2.1 25 = .ok (.aload_n 0, 1) := by decide +kernel
theorem d_104_26 : decode (mth 104).2.1 26 = .ok (.getfield 10, 3) := by decide +kernel
theorem d_104_29 : decode (mth 104).2.1 29 = .ok (.getfield 91, 3) := by decide +kernel
theorem d_104_32 : decode (mth 104).2.1 32 = .ok (.ishl, 1) := by decide +kernel
theorem d_104_33 : decode (mth 104).2.1 33 = .ok (.if_icmp .ge 45, 3) := by decide +kernel
theorem d_104_36 : decode (mth 104).2.1 36 = .ok (.iload 4, 2) := by decide +kernel
theorem d_104_38 : decode (mth 104).2.1 38 = .ok (.invokestatic 238, 3) := by decide +kernel
theorem d_104_41 : decode (mth 104).2.1 41 = .ok (.istore 5, 2) := by decide +kernel
theorem d_104_43 : decode (mth 104).2.1 43 = .ok (.iload 5, 2) := by decide +kernel
theorem d_104_45 : decode (mth 104).2.1 45 = .ok (.iload_n 3, 1) := by decide +kernel
theorem d_104_46 : decode (mth 104).2.1 46 = .ok (.if_icmp .ge 26, 3) := by decide +kernel
theorem d_104_49 : decode (mth 104).2.1 49 = .ok (.aload_n 0, 1) := by decide +kernel
theorem d_104_50 : decode (mth 104).2.1 50 = .ok (.getfield 10, 3) := by decide +kernel
theorem d_104_53 : decode (mth 104).2.1 53 = .ok (.aload_n 0, 1) := by decide +kernel
theorem d_104_54 : decode (mth 104).2.1 54 = .ok (.getfield 19, 3) := by decide +kernel
theorem d_104_57 : decode (mth 104).2.1 57 = .ok (.iload 4, 2) := by decide +kernel
theorem d_104_59 : decode (mth 104).2.1 59 = .ok (.invokevirtual 243, 3) := by decide +kernel
theorem d_104_62 : decode (mth 104).2.1 62 = .ok (.iload_n 1, 1) := by decide +kernel
theorem d_104_63 : decode (mth 104).2.1 63 = .ok (.if_icmp .lt 9, 3) := by decide +kernel
theorem d_104_66 : decode (mth 104).2.1 66 = .ok (.iload 4, 2) := by decide +kernel
theorem d_104_68 : decode (mth 104).2.1 68 = .ok (.istore_n 2, 1) := by decide +kernel
theorem d_104_69 : decode (mth 104).2.1 69 = .ok (.iload 5, 2) := by decide +kernel
theorem d_104_71 : decode (mth 104).2.1 71 = .ok (.istore_n 3, 1) := by decide +kernel
theorem d_104_72 : decode (mth 104).2.1 72 = .ok (.iinc 4 1, 3) := by decide +kernel
theorem d_104_75 : decode (mth 104).2.1 75 = .ok (.goto (-53), 3) := by decide +kernel
theorem d_104_78 : decode (mth 104).2.1 78 = .ok (.iload_n 2, 1) := by decide +kernel
theorem d_104_79 : decode (mth 104).2.1 79 = .ok (.ireturn, 1) := by decide +kernel
/-! 107 PlayedTruth.best(I)I -/
theorem d_107_0 : decode (mth 107).2.1 0 = .ok (.iload_n 1, 1) := by decide +kernel
theorem d_107_1 : decode (mth 107).2.1 1 = .ok (.invokestatic 246, 3) := by decide +kernel
theorem d_107_4 : decode (mth 107).2.1 4 = .ok (.ifCond .ne 5, 3) := by decide +kernel
theorem d_107_7 : decode (mth 107).2.1 7 = .ok (.iconst (-1), 1) := by decide +kernel
theorem d_107_8 : decode (mth 107).2.1 8 = .ok (.ireturn, 1) := by decide +kernel
theorem d_107_9 : decode (mth 107).2.1 9 = .ok (.aload_n 0, 1) := by decide +kernel
theorem d_107_10 : decode (mth 107).2.1 10 = .ok (.getfield 42, 3) := by decide +kernel
theorem d_107_13 : decode (mth 107).2.1 13 = .ok (.iload_n 1, 1) := by decide +kernel
theorem d_107_14 : decode (mth 107).2.1 14 = .ok (.iconst 0, 1) := by decide +kernel
theorem d_107_15 : decode (mth 107).2.1 15 = .ok (.invokevirtual 249, 3) := by decide +kernel
theorem d_107_18 : decode (mth 107).2.1 18 = .ok (.aload_n 0, 1) := by decide +kernel
theorem d_107_19 : decode (mth 107).2.1 19 = .ok (.getfield 42, 3) := by decide +kernel
theorem d_107_22 : decode (mth 107).2.1 22 = .ok (.getfield 253, 3) := by decide +kernel
theorem d_107_25 : decode (mth 107).2.1 25 = .ok (.ireturn, 1) := by decide +kernel
/-! 108 PlayedTruth.isPlanned(I)Z -/
theorem d_108_0 : decode (mth 108).2.1 0 = .ok (.iload_n 0, 1) := by decide +kernel
theorem d_108_1 : decode (mth 108).2.1 1 = .ok (.iconst 0, 1) := by decide +kernel
theorem d_108_2 : decode (mth 108).2.1 2 = .ok (.iconst 4, 1) := by decide +kernel
theorem d_108_3 : decode (mth 108).2.1 3 = .ok (.invokestatic 83, 3) := by decide +kernel
theorem d_108_6 : decode (mth 108).2.1 6 = .ok (.ireturn, 1) := by decide +kernel
/-! 113 PlayedTruth.ith(II)I -/
theorem d_113_0 : decode (mth 113).2.1 0 = .ok (.iload_n 1, 1) := by decide +kernel
theorem d_113_1 : decode (mth 113).2.1 1 = .ok (.invokestatic 246, 3) := by decide +kernel
theorem d_113_4 : decode (mth 113).2.1 4 = .ok (.ifCond .eq 12, 3) := by decide +kernel
theorem d_113_7 : decode (mth 113).2.1 7 = .ok (.iload_n 2, 1) := by decide +kernel
theorem d_113_8 : decode (mth 113).2.1 8 = .ok (.iconst 0, 1) := by decide +kernel
theorem d_113_9 : decode (mth 113).2.1 9 = .ok (.iconst 3, 1) := by decide +kernel
theorem d_113_10 : decode (mth 113).2.1 10 = .ok (.invokestatic 83, 3) := by decide +kernel
theorem d_113_13 : decode (mth 113).2.1 13 = .ok (.ifCond .ne 5, 3) := by decide +kernel
theorem d_113_16 : decode (mth 113).2.1 16 = .ok (.iconst (-1), 1) := by decide +kernel
theorem d_113_17 : decode (mth 113).2.1 17 = .ok (.ireturn, 1) := by decide +kernel
theorem d_113_18 : decode (mth 113).2.1 18 = .ok (.aload_n 0, 1) := by decide +kernel
theorem d_113_19 : decode (mth 113).2.1 19 = .ok (.getfield 42, 3) := by decide +kernel
theorem d_113_22 : decode (mth 113).2.1 22 = .ok (.iload_n 1, 1) := by decide +kernel
theorem d_113_23 : decode (mth 113).2.1 23 = .ok (.iconst 0, 1) := by decide +kernel
theorem d_113_24 : decode (mth 113).2.1 24 = .ok (.invokevirtual 249, 3) := by decide +kernel
theorem d_113_27 : decode (mth 113).2.1 27 = .ok (.iload_n 2, 1) := by decide +kernel
theorem d_113_28 : decode (mth 113).2.1 28 = .ok (.aload_n 0, 1) := by decide +kernel
theorem d_113_29 : decode (mth 113).2.1 29 = .ok (.getfield 42, 3) := by decide +kernel
theorem d_113_32 : decode (mth 113).2.1 32 = .ok (.getfield 256, 3) := by decide +kernel
theorem d_113_35 : decode (mth 113).2.1 35 = .ok (.if_icmp .ge 15, 3) := by decide +kernel
theorem d_113_38 : decode (mth 113).2.1 38 = .ok (.aload_n 0, 1) := by decide +kernel
theorem d_113_39 : decode (mth 113).2.1 39 = .ok (.getfield 42, 3) := by decide +kernel
theorem d_113_42 : decode (mth 113).2.1 42 = .ok (.getfield 259, 3) := by decide +kernel
theorem d_113_45 : decode (mth 113).2.1 45 = .ok (.iload_n 2, 1) := by decide +kernel
theorem d_113_46 : decode (mth 113).2.1 46 = .ok (.iaload, 1) := by decide +kernel
theorem d_113_47 : decode (mth 113).2.1 47 = .ok (.goto 5, 3) := by decide +kernel
theorem d_113_50 : decode (mth 113).2.1 50 = .ok (.bipush (-3), 2) := by decide +kernel
theorem d_113_52 : decode (mth 113).2.1 52 = .ok (.ireturn, 1) := by decide +kernel
/-! 114 PlayedTruth.ways(I)I -/
theorem d_114_0 : decode (mth 114).2.1 0 = .ok (.iload_n 1, 1) := by decide +kernel
theorem d_114_1 : decode (mth 114).2.1 1 = .ok (.invokestatic 246, 3) := by decide +kernel
theorem d_114_4 : decode (mth 114).2.1 4 = .ok (.ifCond .ne 5, 3) := by decide +kernel
theorem d_114_7 : decode (mth 114).2.1 7 = .ok (.iconst (-1), 1) := by decide +kernel
theorem d_114_8 : decode (mth 114).2.1 8 = .ok (.ireturn, 1) := by decide +kernel
theorem d_114_9 : decode (mth 114).2.1 9 = .ok (.aload_n 0, 1) := by decide +kernel
theorem d_114_10 : decode (mth 114).2.1 10 = .ok (.getfield 42, 3) := by decide +kernel
theorem d_114_13 : decode (mth 114).2.1 13 = .ok (.iload_n 1, 1) := by decide +kernel
theorem d_114_14 : decode (mth 114).2.1 14 = .ok (.iconst 0, 1) := by decide +kernel
theorem d_114_15 : decode (mth 114).2.1 15 = .ok (.invokevirtual 249, 3) := by decide +kernel
theorem d_114_18 : decode (mth 114).2.1 18 = .ok (.aload_n 0, 1) := by decide +kernel
theorem d_114_19 : decode (mth 114).2.1 19 = .ok (.getfield 42, 3) := by decide +kernel
theorem d_114_22 : decode (mth 114).2.1 22 = .ok (.getfield 262, 3) := by decide +kernel
theorem d_114_25 : decode (mth 114).2.1 25 = .ok (.ireturn, 1) := by decide +kernel
/-! 115 PlayedTruth.bill(II)I -/
theorem d_115_0 : decode (mth 115).2.1 0 = .ok (.iload_n 1, 1) := by decide +kernel
theorem d_115_1 : decode (mth 115).2.1 1 = .ok (.invokestatic 246, 3) := by decide +kernel
theorem d_115_4 : decode (mth 115).2.1 4 = .ok (.ifCond .eq 11, 3) := by decide +kernel
theorem d_115_7 : decode (mth 115).2.1 7 = .ok (.aload_n 0, 1) := by decide +kernel
theorem d_115_8 : decode (mth 115).2.1 8 = .ok (.iload_n 2, 1) := by decide +kernel
theorem d_115_9 : decode (mth 115).2.1 9 = .ok (.invokevirtual 265, 3) := by decide +kernel
theorem d_115_12 : decode (mth 115).2.1 12 = .ok (.ifCond .ne 5, 3) := by decide +kernel
theorem d_115_15 : decode (mth 115).2.1 15 = .ok (.iconst (-1), 1) := by decide +kernel
theorem d_115_16 : decode (mth 115).2.1 16 = .ok (.ireturn, 1) := by decide +kernel
theorem d_115_17 : decode (mth 115).2.1 17 = .ok (.aload_n 0, 1) := by decide +kernel
theorem d_115_18 : decode (mth 115).2.1 18 = .ok (.getfield 42, 3) := by decide +kernel
theorem d_115_21 : decode (mth 115).2.1 21 = .ok (.iload_n 1, 1) := by decide +kernel
theorem d_115_22 : decode (mth 115).2.1 22 = .ok (.iload_n 2, 1) := by decide +kernel
theorem d_115_23 : decode (mth 115).2.1 23 = .ok (.invokevirtual 249, 3) := by decide +kernel
theorem d_115_26 : decode (mth 115).2.1 26 = .ok (.aload_n 0, 1) := by decide +kernel
theorem d_115_27 : decode (mth 115).2.1 27 = .ok (.getfield 42, 3) := by decide +kernel
theorem d_115_30 : decode (mth 115).2.1 30 = .ok (.getfield 268, 3) := by decide +kernel
theorem d_115_33 : decode (mth 115).2.1 33 = .ok (.ireturn, 1) := by decide +kernel
/-! 116 PlayedTruth.isSetOfScenes(I)Z -/
theorem d_116_0 : decode (mth 116).2.1 0 = .ok (.iload_n 1, 1) := by decide +kernel
theorem d_116_1 : decode (mth 116).2.1 1 = .ok (.iconst 0, 1) := by decide +kernel
theorem d_116_2 : decode (mth 116).2.1 2 = .ok (.iconst 1, 1) := by decide +kernel
theorem d_116_3 : decode (mth 116).2.1 3 = .ok (.aload_n 0, 1) := by decide +kernel
theorem d_116_4 : decode (mth 116).2.1 4 = .ok (.getfield 10, 3) := by decide +kernel
theorem d_116_7 : decode (mth 116).2.1 7 = .ok (.getfield 91, 3) := by decide +kernel
theorem d_116_10 : decode (mth 116).2.1 10 = .ok (.ishl, 1) := by decide +kernel
theorem d_116_11 : decode (mth 116).2.1 11 = .ok (.iconst 1, 1) := by decide +kernel
theorem d_116_12 : decode (mth 116).2.1 12 = .ok (.isub, 1) := by decide +kernel
theorem d_116_13 : decode (mth 116).2.1 13 = .ok (.invokestatic 83, 3) := by decide +kernel
theorem d_116_16 : decode (mth 116).2.1 16 = .ok (.ireturn, 1) := by decide +kernel
/-! 117 PlayedTruth.bars(II)I -/
theorem d_117_0 : decode (mth 117).2.1 0 = .ok (.iload_n 1, 1) := by decide +kernel
theorem d_117_1 : decode (mth 117).2.1 1 = .ok (.invokestatic 246, 3) := by decide +kernel
theorem d_117_4 : decode (mth 117).2.1 4 = .ok (.ifCond .eq 11, 3) := by decide +kernel
theorem d_117_7 : decode (mth 117).2.1 7 = .ok (.aload_n 0, 1) := by decide +kernel
theorem d_117_8 : decode (mth 117).2.1 8 = .ok (.iload_n 2, 1) := by decide +kernel
theorem d_117_9 : decode (mth 117).2.1 9 = .ok (.invokevirtual 265, 3) := by decide +kernel
theorem d_117_12 : decode (mth 117).2.1 12 = .ok (.ifCond .ne 5, 3) := by decide +kernel
theorem d_117_15 : decode (mth 117).2.1 15 = .ok (.iconst (-1), 1) := by decide +kernel
theorem d_117_16 : decode (mth 117).2.1 16 = .ok (.ireturn, 1) := by decide +kernel
theorem d_117_17 : decode (mth 117).2.1 17 = .ok (.aload_n 0, 1) := by decide +kernel
theorem d_117_18 : decode (mth 117).2.1 18 = .ok (.getfield 42, 3) := by decide +kernel
theorem d_117_21 : decode (mth 117).2.1 21 = .ok (.iload_n 1, 1) := by decide +kernel
theorem d_117_22 : decode (mth 117).2.1 22 = .ok (.iload_n 2, 1) := by decide +kernel
theorem d_117_23 : decode (mth 117).2.1 23 = .ok (.invokevirtual 249, 3) := by decide +kernel
theorem d_117_26 : decode (mth 117).2.1 26 = .ok (.iload_n 2, 1) := by decide +kernel
theorem d_117_27 : decode (mth 117).2.1 27 = .ok (.aload_n 0, 1) := by decide +kernel
theorem d_117_28 : decode (mth 117).2.1 28 = .ok (.getfield 42, 3) := by decide +kernel
theorem d_117_31 : decode (mth 117).2.1 31 = .ok (.getfield 271, 3) := by decide +kernel
theorem d_117_34 : decode (mth 117).2.1 34 = .ok (.iconst (-1), 1) := by decide +kernel
theorem d_117_35 : decode (mth 117).2.1 35 = .ok (.ixor, 1) := by decide +kernel
theorem d_117_36 : decode (mth 117).2.1 36 = .ok (.iand, 1) := by decide +kernel
theorem d_117_37 : decode (mth 117).2.1 37 = .ok (.invokestatic 274, 3) := by decide +kernel
theorem d_117_40 : decode (mth 117).2.1 40 = .ok (.ireturn, 1) := by decide +kernel
/-! 118 PlayedTruth.leastOf(I)I -/
theorem d_118_0 : decode (mth 118).2.1 0 = .ok (.iconst 0, 1) := by decide +kernel
theorem d_118_1 : decode (mth 118).2.1 1 = .ok (.istore_n 1, 1) := by decide +kernel
theorem d_118_2 : decode (mth 118).2.1 2 = .ok (.iload_n 1, 1) := by decide +kernel
theorem d_118_3 : decode (mth 118).2.1 3 = .ok (.bipush 6, 2) := by decide +kernel
theorem d_118_5 : decode (mth 118).2.1 5 = .ok (.if_icmp .ge 20, 3) := by decide +kernel
theorem d_118_8 : decode (mth 118).2.1 8 = .ok (.iload_n 0, 1) := by decide +kernel
theorem d_118_9 : decode (mth 118).2.1 9 = .ok (.iload_n 1, 1) := by decide +kernel
theorem d_118_10 : decode (mth 118).2.1 10 = .ok (.ishr, 1) := by decide +kernel
theorem d_118_11 : decode (mth 118).2.1 11 = .ok (.iconst 1, 1) := by decide +kernel
theorem d_118_12 : decode (mth 118).2.1 12 = .ok (.iand, 1) := by decide +kernel
theorem d_118_13 : decode (mth 118).2.1 13 = .ok (.iconst 1, 1) := by decide +kernel
theorem d_118_14 : decode (mth 118).2.1 14 = .ok (.if_icmp .ne 5, 3) := by decide +kernel
theorem d_118_17 : decode (mth 118).2.1 17 = .ok (.iload_n 1, 1) := by decide +kernel
theorem d_118_18 : decode (mth 118).2.1 18 = .ok (.ireturn, 1) := by decide +kernel
theorem d_118_19 : decode (mth 118).2.1 19 = .ok (.iinc 1 1, 3) := by decide +kernel
theorem d_118_22 : decode (mth 118).2.1 22 = .ok (.goto (-20), 3) := by decide +kernel
theorem d_118_25 : decode (mth 118).2.1 25 = .ok (.bipush (-3), 2) := by decide +kernel
theorem d_118_27 : decode (mth 118).2.1 27 = .ok (.ireturn, 1) := by decide +kernel
/-! 119 PlayedTruth.game(I)I -/
theorem d_119_0 : decode (mth 119).2.1 0 = .ok (.iload_n 1, 1) := by decide +kernel
theorem d_119_1 : decode (mth 119).2.1 1 = .ok (.iconst 1, 1) := by decide +kernel
theorem d_119_2 : decode (mth 119).2.1 2 = .ok (.iconst 4, 1) := by decide +kernel
theorem d_119_3 : decode (mth 119).2.1 3 = .ok (.invokestatic 83, 3) := by decide +kernel
theorem d_119_6 : decode (mth 119).2.1 6 = .ok (.ifCond .ne 5, 3) := by decide +kernel
theorem d_119_9 : decode (mth 119).2.1 9 = .ok (.iconst (-1), 1) := by decide +kernel
theorem d_119_10 : decode (mth 119).2.1 10 = .ok (.ireturn, 1) := by decide +kernel
theorem d_119_11 : decode (mth 119).2.1 11 = .ok (.aload_n 0, 1) := by decide +kernel
theorem d_119_12 : decode (mth 119).2.1 12 = .ok (.getfield 42, 3) := by decide +kernel
theorem d_119_15 : decode (mth 119).2.1 15 = .ok (.iload_n 1, 1) := by decide +kernel
theorem d_119_16 : decode (mth 119).2.1 16 = .ok (.invokevirtual 277, 3) := by decide +kernel
theorem d_119_19 : decode (mth 119).2.1 19 = .ok (.ireturn, 1) := by decide +kernel
/-! 122 PlayedTruth.play(I)I -/
theorem d_122_0 : decode (mth 122).2.1 0 = .ok (.iload_n 1, 1) := by decide +kernel
theorem d_122_1 : decode (mth 122).2.1 1 = .ok (.iconst 1, 1) := by decide +kernel
theorem d_122_2 : decode (mth 122).2.1 2 = .ok (.iconst 4, 1) := by decide +kernel
theorem d_122_3 : decode (mth 122).2.1 3 = .ok (.invokestatic 83, 3) := by decide +kernel
theorem d_122_6 : decode (mth 122).2.1 6 = .ok (.ifCond .ne 5, 3) := by decide +kernel
theorem d_122_9 : decode (mth 122).2.1 9 = .ok (.iconst (-1), 1) := by decide +kernel
theorem d_122_10 : decode (mth 122).2.1 10 = .ok (.ireturn, 1) := by decide +kernel
theorem d_122_11 : decode (mth 122).2.1 11 = .ok (.aload_n 0, 1) := by decide +kernel
theorem d_122_12 : decode (mth 122).2.1 12 = .ok (.getfield 10, 3) := by decide +kernel
theorem d_122_15 : decode (mth 122).2.1 15 = .ok (.aload_n 0, 1) := by decide +kernel
theorem d_122_16 : decode (mth 122).2.1 16 = .ok (.getfield 19, 3) := by decide +kernel
theorem d_122_19 : decode (mth 122).2.1 19 = .ok (.invokevirtual 158, 3) := by decide +kernel
theorem d_122_22 : decode (mth 122).2.1 22 = .ok (.ifCond .eq 6, 3) := by decide +kernel
theorem d_122_25 : decode (mth 122).2.1 25 = .ok (.bipush (-3), 2) := by decide +kernel
theorem d_122_27 : decode (mth 122).2.1 27 = .ok (.ireturn, 1) := by decide +kernel
theorem d_122_28 : decode (mth 122).2.1 28 = .ok (.aload_n 0, 1) := by decide +kernel
theorem d_122_29 : decode (mth 122).2.1 29 = .ok (.getfield 42, 3) := by decide +kernel
theorem d_122_32 : decode (mth 122).2.1 32 = .ok (.iload_n 1, 1) := by decide +kernel
theorem d_122_33 : decode (mth 122).2.1 33 = .ok (.invokevirtual 277, 3) := by decide +kernel
theorem d_122_36 : decode (mth 122).2.1 36 = .ok (.pop, 1) := by decide +kernel
theorem d_122_37 : decode (mth 122).2.1 37 = .ok (.aload_n 0, 1) := by decide +kernel
theorem d_122_38 : decode (mth 122).2.1 38 = .ok (.getfield 42, 3) := by decide +kernel
theorem d_122_41 : decode (mth 122).2.1 41 = .ok (.getfield 280, 3) := by decide +kernel
theorem d_122_44 : decode (mth 122).2.1 44 = .ok (.ireturn, 1) := by decide +kernel
/-! 123 PlayedTruth.report(IIII)I -/
theorem d_123_0 : decode (mth 123).2.1 0 = .ok (.iload_n 1, 1) := by decide +kernel
theorem d_123_1 : decode (mth 123).2.1 1 = .ok (.iconst 0, 1) := by decide +kernel
theorem d_123_2 : decode (mth 123).2.1 2 = .ok (.bipush 15, 2) := by decide +kernel
theorem d_123_4 : decode (mth 123).2.1 4 = .ok (.invokestatic 83, 3) := by decide +kernel
theorem d_123_7 : decode (mth 123).2.1 7 = .ok (.ifCond .eq 12, 3) := by decide +kernel
theorem d_123_10 : decode (mth 123).2.1 10 = .ok (.iload_n 2, 1) := by decide +kernel
theorem d_123_11 : decode (mth 123).2.1 11 = .ok (.iconst 0, 1) := by decide +kernel
theorem d_123_12 : decode (mth 123).2.1 12 = .ok (.iconst 1, 1) := by decide +kernel
theorem d_123_13 : decode (mth 123).2.1 13 = .ok (.invokestatic 83, 3) := by decide +kernel
theorem d_123_16 : decode (mth 123).2.1 16 = .ok (.ifCond .ne 5, 3) := by decide +kernel
theorem d_123_19 : decode (mth 123).2.1 19 = .ok (.iconst (-1), 1) := by decide +kernel
theorem d_123_20 : decode (mth 123).2.1 20 = .ok (.ireturn, 1) := by decide +kernel
theorem d_123_21 : decode (mth 123).2.1 21 = .ok (.iload_n 2, 1) := by decide +kernel
theorem d_123_22 : decode (mth 123).2.1 22 = .ok (.ifCond .ne 8, 3) := by decide +kernel
theorem d_123_25 : decode (mth 123).2.1 25 = .ok (.bipush 99, 2) := by decide +kernel
theorem d_123_27 : decode (mth 123).2.1 27 = .ok (.goto 6, 3) := by decide +kernel
theorem d_123_30 : decode (mth 123).2.1 30 = .ok (.sipush 999, 3) := by decide +kernel
theorem d_123_33 : decode (mth 123).2.1 33 = .ok (.istore 5, 2) := by decide +kernel
theorem d_123_35 : decode (mth 123).2.1 35 = .ok (.iload_n 3, 1) := by decide +kernel
theorem d_123_36 : decode (mth 123).2.1 36 = .ok (.iconst 0, 1) := by decide +kernel
theorem d_123_37 : decode (mth 123).2.1 37 = .ok (.iload 5, 2) := by decide +kernel
theorem d_123_39 : decode (mth 123).2.1 39 = .ok (.invokestatic 83, 3) := by decide +kernel
theorem d_123_42 : decode (mth 123).2.1 42 = .ok (.ifCond .eq 20, 3) := by decide +kernel
theorem d_123_45 : decode (mth 123).2.1 45 = .ok (.iload 4, 2) := by decide +kernel
theorem d_123_47 : decode (mth 123).2.1 47 = .ok (.iconst 0, 1) := by decide +kernel
theorem d_123_48 : decode (mth 123).2.1 48 = .ok (.iload 5, 2) := by decide +kernel
theorem d_123_50 : decode (mth 123).2.1 50 = .ok (.invokestatic 83, 3) := by decide +kernel
theorem d_123_53 : decode (mth 123).2.1 53 = .ok (.ifCond .eq 9, 3) := by decide +kernel
theorem d_123_56 : decode (mth 123).2.1 56 = .ok (.iload 4, 2) := by decide +kernel
theorem d_123_58 : decode (mth 123).2.1 58 = .ok (.iload_n 3, 1) := by decide +kernel
theorem d_123_59 : decode (mth 123).2.1 59 = .ok (.if_icmp .ge 5, 3) := by decide +kernel
theorem d_123_62 : decode (mth 123).2.1 62 = .ok (.iconst (-1), 1) := by decide +kernel
theorem d_123_63 : decode (mth 123).2.1 63 = .ok (.ireturn, 1) := by decide +kernel
theorem d_123_64 : decode (mth 123).2.1 64 = .ok (.aload_n 0, 1) := by decide +kernel
theorem d_123_65 : decode (mth 123).2.1 65 = .ok (.getfield 26, 3) := by decide +kernel
theorem d_123_68 : decode (mth 123).2.1 68 = .ok (.iload_n 1, 1) := by decide +kernel
theorem d_123_69 : decode (mth 123).2.1 69 = .ok (.iload_n 2, 1) := by decide +kernel
theorem d_123_70 : decode (mth 123).2.1 70 = .ok (.iload_n 3, 1) := by decide +kernel
theorem d_123_71 : decode (mth 123).2.1 71 = .ok (.iload 4, 2) := by decide +kernel
theorem d_123_73 : decode (mth 123).2.1 73 = .ok (.invokevirtual 283, 3) := by decide +kernel
theorem d_123_76 : decode (mth 123).2.1 76 = .ok (.ireturn, 1) := by decide +kernel
/-! 125 PlayedTruth.forget()I -/
theorem d_125_0 : decode (mth 125).2.1 0 = .ok (.aload_n 0, 1) := by decide +kernel
theorem d_125_1 : decode (mth 125).2.1 1 = .ok (.getfield 26, 3) := by decide +kernel
theorem d_125_4 : decode (mth 125).2.1 4 = .ok (.getfield 287, 3) := by decide +kernel
theorem d_125_7 : decode (mth 125).2.1 7 = .ok (.istore_n 1, 1) := by decide +kernel
theorem d_125_8 : decode (mth 125).2.1 8 = .ok (.aload_n 0, 1) := by decide +kernel
theorem d_125_9 : decode (mth 125).2.1 9 = .ok (.getfield 26, 3) := by decide +kernel
theorem d_125_12 : decode (mth 125).2.1 12 = .ok (.iconst 0, 1) := by decide +kernel
theorem d_125_13 : decode (mth 125).2.1 13 = .ok (.putfield 287, 3) := by decide +kernel
theorem d_125_16 : decode (mth 125).2.1 16 = .ok (.iload_n 1, 1) := by decide +kernel
theorem d_125_17 : decode (mth 125).2.1 17 = .ok (.ireturn, 1) := by decide +kernel
/-! 126 PlayedTruth.lone(I)I -/
theorem d_126_0 : decode (mth 126).2.1 0 = .ok (.iload_n 1, 1) := by decide +kernel
theorem d_126_1 : decode (mth 126).2.1 1 = .ok (.iconst 0, 1) := by decide +kernel
theorem d_126_2 : decode (mth 126).2.1 2 = .ok (.iconst 3, 1) := by decide +kernel
theorem d_126_3 : decode (mth 126).2.1 3 = .ok (.invokestatic 83, 3) := by decide +kernel
theorem d_126_6 : decode (mth 126).2.1 6 = .ok (.ifCond .ne 5, 3) := by decide +kernel
theorem d_126_9 : decode (mth 126).2.1 9 = .ok (.iconst (-1), 1) := by decide +kernel
theorem d_126_10 : decode (mth 126).2.1 10 = .ok (.ireturn, 1) := by decide +kernel
theorem d_126_11 : decode (mth 126).2.1 11 = .ok (.aload_n 0, 1) := by decide +kernel
theorem d_126_12 : decode (mth 126).2.1 12 = .ok (.getfield 26, 3) := by decide +kernel
theorem d_126_15 : decode (mth 126).2.1 15 = .ok (.aload_n 0, 1) := by decide +kernel
theorem d_126_16 : decode (mth 126).2.1 16 = .ok (.getfield 10, 3) := by decide +kernel
theorem d_126_19 : decode (mth 126).2.1 19 = .ok (.invokevirtual 288, 3) := by decide +kernel
theorem d_126_22 : decode (mth 126).2.1 22 = .ok (.iload_n 1, 1) := by decide +kernel
theorem d_126_23 : decode (mth 126).2.1 23 = .ok (.ifCond .ne 11, 3) := by decide +kernel
theorem d_126_26 : decode (mth 126).2.1 26 = .ok (.aload_n 0, 1) := by decide +kernel
theorem d_126_27 : decode (mth 126).2.1 27 = .ok (.getfield 26, 3) := by decide +kernel
theorem d_126_30 : decode (mth 126).2.1 30 = .ok (.getfield 292, 3) := by decide +kernel
theorem d_126_33 : decode (mth 126).2.1 33 = .ok (.ireturn, 1) := by decide +kernel
theorem d_126_34 : decode (mth 126).2.1 34 = .ok (.aload_n 0, 1) := by decide +kernel
theorem d_126_35 : decode (mth 126).2.1 35 = .ok (.getfield 26, 3) := by decide +kernel
theorem d_126_38 : decode (mth 126).2.1 38 = .ok (.getfield 292, 3) := by decide +kernel
theorem d_126_41 : decode (mth 126).2.1 41 = .ok (.ifCond .ne 6, 3) := by decide +kernel
theorem d_126_44 : decode (mth 126).2.1 44 = .ok (.bipush (-3), 2) := by decide +kernel
theorem d_126_46 : decode (mth 126).2.1 46 = .ok (.ireturn, 1) := by decide +kernel
theorem d_126_47 : decode (mth 126).2.1 47 = .ok (.iload_n 1, 1) := by decide +kernel
theorem d_126_48 : decode (mth 126).2.1 48 = .ok (.iconst 1, 1) := by decide +kernel
theorem d_126_49 : decode (mth 126).2.1 49 = .ok (.if_icmp .ne 11, 3) := by decide +kernel
theorem d_126_52 : decode (mth 126).2.1 52 = .ok (.aload_n 0, 1) := by decide +kernel
theorem d_126_53 : decode (mth 126).2.1 53 = .ok (.getfield 26, 3) := by decide +kernel
theorem d_126_56 : decode (mth 126).2.1 56 = .ok (.getfield 295, 3) := by decide +kernel
theorem d_126_59 : decode (mth 126).2.1 59 = .ok (.ireturn, 1) := by decide +kernel
theorem d_126_60 : decode (mth 126).2.1 60 = .ok (.iload_n 1, 1) := by decide +kernel
theorem d_126_61 : decode (mth 126).2.1 61 = .ok (.iconst 2, 1) := by decide +kernel
theorem d_126_62 : decode (mth 126).2.1 62 = .ok (.if_icmp .ne 13, 3) := by decide +kernel
theorem d_126_65 : decode (mth 126).2.1 65 = .ok (.aload_n 0, 1) := by decide +kernel
theorem d_126_66 : decode (mth 126).2.1 66 = .ok (.getfield 26, 3) := by decide +kernel
theorem d_126_69 : decode (mth 126).2.1 69 = .ok (.getfield 298, 3) := by decide +kernel
theorem d_126_72 : decode (mth 126).2.1 72 = .ok (.goto 10, 3) := by decide +kernel
theorem d_126_75 : decode (mth 126).2.1 75 = .ok (.aload_n 0, 1) := by decide +kernel
theorem d_126_76 : decode (mth 126).2.1 76 = .ok (.getfield 26, 3) := by decide +kernel
theorem d_126_79 : decode (mth 126).2.1 79 = .ok (.getfield 301, 3) := by decide +kernel
theorem d_126_82 : decode (mth 126).2.1 82 = .ok (.ireturn, 1) := by decide +kernel
/-! 132 PlayedTruth.liar()I -/
theorem d_132_0 : decode (mth 132).2.1 0 = .ok (.aload_n 0, 1) := by decide +kernel
theorem d_132_1 : decode (mth 132).2.1 1 = .ok (.getfield 26, 3) := by decide +kernel
theorem d_132_4 : decode (mth 132).2.1 4 = .ok (.aload_n 0, 1) := by decide +kernel
theorem d_132_5 : decode (mth 132).2.1 5 = .ok (.getfield 10, 3) := by decide +kernel
theorem d_132_8 : decode (mth 132).2.1 8 = .ok (.invokevirtual 288, 3) := by decide +kernel
theorem d_132_11 : decode (mth 132).2.1 11 = .ok (.aload_n 0, 1) := by decide +kernel
theorem d_132_12 : decode (mth 132).2.1 12 = .ok (.getfield 26, 3) := by decide +kernel
theorem d_132_15 : decode (mth 132).2.1 15 = .ok (.getfield 292, 3) := by decide +kernel
theorem d_132_18 : decode (mth 132).2.1 18 = .ok (.ifCond .le 8, 3) := by decide +kernel
theorem d_132_21 : decode (mth 132).2.1 21 = .ok (.bipush (-3), 2) := by decide +kernel
theorem d_132_23 : decode (mth 132).2.1 23 = .ok (.goto 13, 3) := by decide +kernel
theorem d_132_26 : decode (mth 132).2.1 26 = .ok (.aload_n 0, 1) := by decide +kernel
theorem d_132_27 : decode (mth 132).2.1 27 = .ok (.getfield 26, 3) := by decide +kernel
theorem d_132_30 : decode (mth 132).2.1 30 = .ok (.getfield 304, 3) := by decide +kernel
theorem d_132_33 : decode (mth 132).2.1 33 = .ok (.invokestatic 274, 3) := by decide +kernel
theorem d_132_36 : decode (mth 132).2.1 36 = .ok (.ireturn, 1) := by decide +kernel
/-! 133 PlayedTruth.seed(I)I -/
theorem d_133_0 : decode (mth 133).2.1 0 = .ok (.aload_n 0, 1) := by decide +kernel
theorem d_133_1 : decode (mth 133).2.1 1 = .ok (.getfield 19, 3) := by decide +kernel
theorem d_133_4 : decode (mth 133).2.1 4 = .ok (.getfield 307, 3) := by decide +kernel
theorem d_133_7 : decode (mth 133).2.1 7 = .ok (.istore_n 2, 1) := by decide +kernel
theorem d_133_8 : decode (mth 133).2.1 8 = .ok (.aload_n 0, 1) := by decide +kernel
theorem d_133_9 : decode (mth 133).2.1 9 = .ok (.getfield 19, 3) := by decide +kernel
theorem d_133_12 : decode (mth 133).2.1 12 = .ok (.iload_n 1, 1) := by decide +kernel
theorem d_133_13 : decode (mth 133).2.1 13 = .ok (.putfield 307, 3) := by decide +kernel
theorem d_133_16 : decode (mth 133).2.1 16 = .ok (.iload_n 2, 1) := by decide +kernel
theorem d_133_17 : decode (mth 133).2.1 17 = .ok (.ireturn, 1) := by decide +kernel
/-! 134 PlayedTruth.lot()I -/
theorem d_134_0 : decode (mth 134).2.1 0 = .ok (.aload_n 0, 1) := by decide +kernel
theorem d_134_1 : decode (mth 134).2.1 1 = .ok (.getfield 10, 3) := by decide +kernel
theorem d_134_4 : decode (mth 134).2.1 4 = .ok (.aload_n 0, 1) := by decide +kernel
theorem d_134_5 : decode (mth 134).2.1 5 = .ok (.getfield 19, 3) := by decide +kernel
theorem d_134_8 : decode (mth 134).2.1 8 = .ok (.invokevirtual 158, 3) := by decide +kernel
theorem d_134_11 : decode (mth 134).2.1 11 = .ok (.ifCond .eq 8, 3) := by decide +kernel
theorem d_134_14 : decode (mth 134).2.1 14 = .ok (.bipush (-4), 2) := by decide +kernel
theorem d_134_16 : decode (mth 134).2.1 16 = .ok (.goto 14, 3) := by decide +kernel
theorem d_134_19 : decode (mth 134).2.1 19 = .ok (.aload_n 0, 1) := by decide +kernel
theorem d_134_20 : decode (mth 134).2.1 20 = .ok (.getfield 10, 3) := by decide +kernel
theorem d_134_23 : decode (mth 134).2.1 23 = .ok (.aload_n 0, 1) := by decide +kernel
theorem d_134_24 : decode (mth 134).2.1 24 = .ok (.getfield 19, 3) := by decide +kernel
theorem d_134_27 : decode (mth 134).2.1 27 = .ok (.invokevirtual 310, 3) := by decide +kernel
theorem d_134_30 : decode (mth 134).2.1 30 = .ok (.ireturn, 1) := by decide +kernel
/-! 136 PlayedTruth.times(II)I -/
theorem d_136_0 : decode (mth 136).2.1 0 = .ok (.iload_n 1, 1) := by decide +kernel
theorem d_136_1 : decode (mth 136).2.1 1 = .ok (.iconst 1, 1) := by decide +kernel
theorem d_136_2 : decode (mth 136).2.1 2 = .ok (.bipush 40, 2) := by decide +kernel
theorem d_136_4 : decode (mth 136).2.1 4 = .ok (.invokestatic 83, 3) := by decide +kernel
theorem d_136_7 : decode (mth 136).2.1 7 = .ok (.ifCond .eq 14, 3) := by decide +kernel
theorem d_136_10 : decode (mth 136).2.1 10 = .ok (.iload_n 2, 1) := by decide +kernel
theorem d_136_11 : decode (mth 136).2.1 11 = .ok (.iconst 0, 1) := by decide +kernel
theorem d_136_12 : decode (mth 136).2.1 12 = .ok (.sipush 999, 3) := by decide +kernel
theorem d_136_15 : decode (mth 136).2.1 15 = .ok (.invokestatic 83, 3) := by decide +kernel
theorem d_136_18 : decode (mth 136).2.1 18 = .ok (.ifCond .ne 5, 3) := by decide +kernel
theorem d_136_21 : decode (mth 136).2.1 21 = .ok (.iconst (-1), 1) := by decide +kernel
theorem d_136_22 : decode (mth 136).2.1 22 = .ok (.ireturn, 1) := by decide +kernel
theorem d_136_23 : decode (mth 136).2.1 23 = .ok (.aload_n 0, 1) := by decide +kernel
theorem d_136_24 : decode (mth 136).2.1 24 = .ok (.getfield 42, 3) := by decide +kernel
theorem d_136_27 : decode (mth 136).2.1 27 = .ok (.iload_n 1, 1) := by decide +kernel
theorem d_136_28 : decode (mth 136).2.1 28 = .ok (.iload_n 2, 1) := by decide +kernel
theorem d_136_29 : decode (mth 136).2.1 29 = .ok (.invokevirtual 313, 3) := by decide +kernel
theorem d_136_32 : decode (mth 136).2.1 32 = .ok (.ireturn, 1) := by decide +kernel
/-! 138 PlayedTruth.prove(I)I -/
theorem d_138_0 : decode (mth 138).2.1 0 = .ok (.iload_n 1, 1) := by decide +kernel
theorem d_138_1 : decode (mth 138).2.1 1 = .ok (.invokestatic 246, 3) := by decide +kernel
theorem d_138_4 : decode (mth 138).2.1 4 = .ok (.ifCond .ne 5, 3) := by decide +kernel
theorem d_138_7 : decode (mth 138).2.1 7 = .ok (.iconst (-1), 1) := by decide +kernel
theorem d_138_8 : decode (mth 138).2.1 8 = .ok (.ireturn, 1) := by decide +kernel
theorem d_138_9 : decode (mth 138).2.1 9 = .ok (.aload_n 0, 1) := by decide +kernel
theorem d_138_10 : decode (mth 138).2.1 10 = .ok (.getfield 42, 3) := by decide +kernel
theorem d_138_13 : decode (mth 138).2.1 13 = .ok (.iload_n 1, 1) := by decide +kernel
theorem d_138_14 : decode (mth 138).2.1 14 = .ok (.iconst 0, 1) := by decide +kernel
theorem d_138_15 : decode (mth 138).2.1 15 = .ok (.invokevirtual 249, 3) := by decide +kernel
theorem d_138_18 : decode (mth 138).2.1 18 = .ok (.aload_n 0, 1) := by decide +kernel
theorem d_138_19 : decode (mth 138).2.1 19 = .ok (.getfield 42, 3) := by decide +kernel
theorem d_138_22 : decode (mth 138).2.1 22 = .ok (.aload_n 0, 1) := by decide +kernel
theorem d_138_23 : decode (mth 138).2.1 23 = .ok (.getfield 60, 3) := by decide +kernel
theorem d_138_26 : decode (mth 138).2.1 26 = .ok (.invokevirtual 316, 3) := by decide +kernel
theorem d_138_29 : decode (mth 138).2.1 29 = .ok (.aload_n 0, 1) := by decide +kernel
theorem d_138_30 : decode (mth 138).2.1 30 = .ok (.aload_n 0, 1) := by decide +kernel
theorem d_138_31 : decode (mth 138).2.1 31 = .ok (.getfield 42, 3) := by decide +kernel
theorem d_138_34 : decode (mth 138).2.1 34 = .ok (.getfield 256, 3) := by decide +kernel
theorem d_138_37 : decode (mth 138).2.1 37 = .ok (.putfield 64, 3) := by decide +kernel
theorem d_138_40 : decode (mth 138).2.1 40 = .ok (.aload_n 0, 1) := by decide +kernel
theorem d_138_41 : decode (mth 138).2.1 41 = .ok (.getfield 64, 3) := by decide +kernel
theorem d_138_44 : decode (mth 138).2.1 44 = .ok (.ireturn, 1) := by decide +kernel
/-! 140 PlayedTruth.row(II)I -/
theorem d_140_0 : decode (mth 140).2.1 0 = .ok (.aload_n 0, 1) := by decide +kernel
theorem d_140_1 : decode (mth 140).2.1 1 = .ok (.iload_n 1, 1) := by decide +kernel
theorem d_140_2 : decode (mth 140).2.1 2 = .ok (.iload_n 2, 1) := by decide +kernel
theorem d_140_3 : decode (mth 140).2.1 3 = .ok (.invokevirtual 320, 3) := by decide +kernel
theorem d_140_6 : decode (mth 140).2.1 6 = .ok (.ifCond .eq 16, 3) := by decide +kernel
theorem d_140_9 : decode (mth 140).2.1 9 = .ok (.aload_n 0, 1) := by decide +kernel
theorem d_140_10 : decode (mth 140).2.1 10 = .ok (.getfield 60, 3) := by decide +kernel
theorem d_140_13 : decode (mth 140).2.1 13 = .ok (.iload_n 1, 1) := by decide +kernel
theorem d_140_14 : decode (mth 140).2.1 14 = .ok (.iconst 3, 1) := by decide +kernel
theorem d_140_15 : decode (mth 140).2.1 15 = .ok (.imul, 1) := by decide +kernel
theorem d_140_16 : decode (mth 140).2.1 16 = .ok (.iload_n 2, 1) := by decide +kernel
theorem d_140_17 : decode (mth 140).2.1 17 = .ok (.iadd, 1) := by decide +kernel
theorem d_140_18 : decode (mth 140).2.1 18 = .ok (.iaload, 1) := by decide +kernel
theorem d_140_19 : decode (mth 140).2.1 19 = .ok (.goto 5, 3) := by decide +kernel
theorem d_140_22 : decode (mth 140).2.1 22 = .ok (.bipush (-9), 2) := by decide +kernel
theorem d_140_24 : decode (mth 140).2.1 24 = .ok (.ireturn, 1) := by decide +kernel
/-! 141 PlayedTruth.isInRow(II)Z -/
theorem d_141_0 : decode (mth 141).2.1 0 = .ok (.iload_n 1, 1) := by decide +kernel
theorem d_141_1 : decode (mth 141).2.1 1 = .ok (.iconst 0, 1) := by decide +kernel
theorem d_141_2 : decode (mth 141).2.1 2 = .ok (.aload_n 0, 1) := by decide +kernel
theorem d_141_3 : decode (mth 141).2.1 3 = .ok (.getfield 64, 3) := by decide +kernel
theorem d_141_6 : decode (mth 141).2.1 6 = .ok (.iconst 1, 1) := by decide +kernel
theorem d_141_7 : decode (mth 141).2.1 7 = .ok (.isub, 1) := by decide +kernel
theorem d_141_8 : decode (mth 141).2.1 8 = .ok (.invokestatic 83, 3) := by decide +kernel
theorem d_141_11 : decode (mth 141).2.1 11 = .ok (.ifCond .eq 16, 3) := by decide +kernel
theorem d_141_14 : decode (mth 141).2.1 14 = .ok (.iload_n 2, 1) := by decide +kernel
theorem d_141_15 : decode (mth 141).2.1 15 = .ok (.iconst 0, 1) := by decide +kernel
theorem d_141_16 : decode (mth 141).2.1 16 = .ok (.iconst 2, 1) := by decide +kernel
theorem d_141_17 : decode (mth 141).2.1 17 = .ok (.invokestatic 83, 3) := by decide +kernel
theorem d_141_20 : decode (mth 141).2.1 20 = .ok (.ifCond .eq 7, 3) := by decide +kernel
theorem d_141_23 : decode (mth 141).2.1 23 = .ok (.iconst 1, 1) := by decide +kernel
theorem d_141_24 : decode (mth 141).2.1 24 = .ok (.goto 4, 3) := by decide +kernel
theorem d_141_27 : decode (mth 141).2.1 27 = .ok (.iconst 0, 1) := by decide +kernel
theorem d_141_28 : decode (mth 141).2.1 28 = .ok (.ireturn, 1) := by decide +kernel
/-! 142 PlayedTruth.alterRow(III)I -/
theorem d_142_0 : decode (mth 142).2.1 0 = .ok (.aload_n 0, 1) := by decide +kernel
theorem d_142_1 : decode (mth 142).2.1 1 = .ok (.iload_n 1, 1) := by decide +kernel
theorem d_142_2 : decode (mth 142).2.1 2 = .ok (.iload_n 2, 1) := by decide +kernel
theorem d_142_3 : decode (mth 142).2.1 3 = .ok (.invokevirtual 320, 3) := by decide +kernel
theorem d_142_6 : decode (mth 142).2.1 6 = .ok (.ifCond .eq 19, 3) := by decide +kernel
theorem d_142_9 : decode (mth 142).2.1 9 = .ok (.aload_n 0, 1) := by decide +kernel
theorem d_142_10 : decode (mth 142).2.1 10 = .ok (.getfield 60, 3) := by decide +kernel
theorem d_142_13 : decode (mth 142).2.1 13 = .ok (.iload_n 1, 1) := by decide +kernel
theorem d_142_14 : decode (mth 142).2.1 14 = .ok (.iconst 3, 1) := by decide +kernel
theorem d_142_15 : decode (mth 142).2.1 15 = .ok (.imul, 1) := by decide +kernel
theorem d_142_16 : decode (mth 142).2.1 16 = .ok (.iload_n 2, 1) := by decide +kernel
theorem d_142_17 : decode (mth 142).2.1 17 = .ok (.iadd, 1) := by decide +kernel
theorem d_142_18 : decode (mth 142).2.1 18 = .ok (.iload_n 3, 1) := by decide +kernel
theorem d_142_19 : decode (mth 142).2.1 19 = .ok (.invokestatic 129, 3) := by decide +kernel
theorem d_142_22 : decode (mth 142).2.1 22 = .ok (.goto 5, 3) := by decide +kernel
theorem d_142_25 : decode (mth 142).2.1 25 = .ok (.bipush (-9), 2) := by decide +kernel
theorem d_142_27 : decode (mth 142).2.1 27 = .ok (.ireturn, 1) := by decide +kernel
/-! 143 PlayedTruth.judge()I -/
theorem d_143_0 : decode (mth 143).2.1 0 = .ok (.aload_n 0, 1) := by decide +kernel
theorem d_143_1 : decode (mth 143).2.1 1 = .ok (.getfield 42, 3) := by decide +kernel
theorem d_143_4 : decode (mth 143).2.1 4 = .ok (.aload_n 0, 1) := by decide +kernel
theorem d_143_5 : decode (mth 143).2.1 5 = .ok (.getfield 60, 3) := by decide +kernel
theorem d_143_8 : decode (mth 143).2.1 8 = .ok (.aload_n 0, 1) := by decide +kernel
theorem d_143_9 : decode (mth 143).2.1 9 = .ok (.getfield 64, 3) := by decide +kernel
theorem d_143_12 : decode (mth 143).2.1 12 = .ok (.invokevirtual 324, 3) := by decide +kernel
theorem d_143_15 : decode (mth 143).2.1 15 = .ok (.ireturn, 1) := by decide +kernel
/-! 146 PlayedTruth.sheet(III)I -/
theorem d_146_0 : decode (mth 146).2.1 0 = .ok (.iload_n 1, 1) := by decide +kernel
theorem d_146_1 : decode (mth 146).2.1 1 = .ok (.invokestatic 328, 3) := by decide +kernel
theorem d_146_4 : decode (mth 146).2.1 4 = .ok (.ifCond .eq 12, 3) := by decide +kernel
theorem d_146_7 : decode (mth 146).2.1 7 = .ok (.iload_n 2, 1) := by decide +kernel
theorem d_146_8 : decode (mth 146).2.1 8 = .ok (.iconst (-1), 1) := by decide +kernel
theorem d_146_9 : decode (mth 146).2.1 9 = .ok (.iconst 4, 1) := by decide +kernel
theorem d_146_10 : decode (mth 146).2.1 10 = .ok (.invokestatic 83, 3) := by decide +kernel
theorem d_146_13 : decode (mth 146).2.1 13 = .ok (.ifCond .ne 5, 3) := by decide +kernel
theorem d_146_16 : decode (mth 146).2.1 16 = .ok (.iconst (-1), 1) := by decide +kernel
theorem d_146_17 : decode (mth 146).2.1 17 = .ok (.ireturn, 1) := by decide +kernel
theorem d_146_18 : decode (mth 146).2.1 18 = .ok (.iload_n 2, 1) := by decide +kernel
theorem d_146_19 : decode (mth 146).2.1 19 = .ok (.iconst (-1), 1) := by decide +kernel
theorem d_146_20 : decode (mth 146).2.1 20 = .ok (.if_icmp .ne 14, 3) := by decide +kernel
theorem d_146_23 : decode (mth 146).2.1 23 = .ok (.aload_n 0, 1) := by decide +kernel
theorem d_146_24 : decode (mth 146).2.1 24 = .ok (.getfield 49, 3) := by decide +kernel
theorem d_146_27 : decode (mth 146).2.1 27 = .ok (.iload_n 1, 1) := by decide +kernel
theorem d_146_28 : decode (mth 146).2.1 28 = .ok (.iconst (-1), 1) := by decide +kernel
theorem d_146_29 : decode (mth 146).2.1 29 = .ok (.iconst 0, 1) := by decide +kernel
theorem d_146_30 : decode (mth 146).2.1 30 = .ok (.invokevirtual 331, 3) := by decide +kernel
theorem d_146_33 : decode (mth 146).2.1 33 = .ok (.ireturn, 1) := by decide +kernel
theorem d_146_34 : decode (mth 146).2.1 34 = .ok (.iload_n 3, 1) := by decide +kernel
theorem d_146_35 : decode (mth 146).2.1 35 = .ok (.bipush 40, 2) := by decide +kernel
theorem d_146_37 : decode (mth 146).2.1 37 = .ok (.if_icmp .le 5, 3) := by decide +kernel
theorem d_146_40 : decode (mth 146).2.1 40 = .ok (.iconst (-1), 1) := by decide +kernel
theorem d_146_41 : decode (mth 146).2.1 41 = .ok (.ireturn, 1) := by decide +kernel
theorem d_146_42 : decode (mth 146).2.1 42 = .ok (.iload_n 3, 1) := by decide +kernel
theorem d_146_43 : decode (mth 146).2.1 43 = .ok (.ifCond .ge 6, 3) := by decide +kernel
theorem d_146_46 : decode (mth 146).2.1 46 = .ok (.bipush (-14), 2) := by decide +kernel
theorem d_146_48 : decode (mth 146).2.1 48 = .ok (.ireturn, 1) := by decide +kernel
theorem d_146_49 : decode (mth 146).2.1 49 = .ok (.aload_n 0, 1) := by decide +kernel
theorem d_146_50 : decode (mth 146).2.1 50 = .ok (.getfield 49, 3) := by decide +kernel
theorem d_146_53 : decode (mth 146).2.1 53 = .ok (.iload_n 1, 1) := by decide +kernel
theorem d_146_54 : decode (mth 146).2.1 54 = .ok (.iload_n 2, 1) := by decide +kernel
theorem d_146_55 : decode (mth 146).2.1 55 = .ok (.iload_n 3, 1) := by decide +kernel
theorem d_146_56 : decode (mth 146).2.1 56 = .ok (.invokevirtual 331, 3) := by decide +kernel
theorem d_146_59 : decode (mth 146).2.1 59 = .ok (.ireturn, 1) := by decide +kernel
/-! 149 PlayedTruth.write(III)I -/
theorem d_149_0 : decode (mth 149).2.1 0 = .ok (.iload_n 1, 1) := by decide +kernel
theorem d_149_1 : decode (mth 149).2.1 1 = .ok (.invokestatic 328, 3) := by decide +kernel
theorem d_149_4 : decode (mth 149).2.1 4 = .ok (.ifCond .ne 5, 3) := by decide +kernel
theorem d_149_7 : decode (mth 149).2.1 7 = .ok (.iconst (-1), 1) := by decide +kernel
theorem d_149_8 : decode (mth 149).2.1 8 = .ok (.ireturn, 1) := by decide +kernel
theorem d_149_9 : decode (mth 149).2.1 9 = .ok (.aload_n 0, 1) := by decide +kernel
theorem d_149_10 : decode (mth 149).2.1 10 = .ok (.getfield 49, 3) := by decide +kernel
theorem d_149_13 : decode (mth 149).2.1 13 = .ok (.getfield 335, 3) := by decide +kernel
theorem d_149_16 : decode (mth 149).2.1 16 = .ok (.iload_n 1, 1) := by decide +kernel
theorem d_149_17 : decode (mth 149).2.1 17 = .ok (.iaload, 1) := by decide +kernel
theorem d_149_18 : decode (mth 149).2.1 18 = .ok (.iconst (-1), 1) := by decide +kernel
theorem d_149_19 : decode (mth 149).2.1 19 = .ok (.if_icmp .ne 6, 3) := by decide +kernel
theorem d_149_22 : decode (mth 149).2.1 22 = .ok (.bipush (-11), 2) := by decide +kernel
theorem d_149_24 : decode (mth 149).2.1 24 = .ok (.ireturn, 1) := by decide +kernel
theorem d_149_25 : decode (mth 149).2.1 25 = .ok (.aload_n 0, 1) := by decide +kernel
theorem d_149_26 : decode (mth 149).2.1 26 = .ok (.getfield 49, 3) := by decide +kernel
theorem d_149_29 : decode (mth 149).2.1 29 = .ok (.iload_n 1, 1) := by decide +kernel
theorem d_149_30 : decode (mth 149).2.1 30 = .ok (.iload_n 2, 1) := by decide +kernel
theorem d_149_31 : decode (mth 149).2.1 31 = .ok (.invokevirtual 338, 3) := by decide +kernel
theorem d_149_34 : decode (mth 149).2.1 34 = .ok (.ifCond .ne 6, 3) := by decide +kernel
theorem d_149_37 : decode (mth 149).2.1 37 = .ok (.bipush (-12), 2) := by decide +kernel
theorem d_149_39 : decode (mth 149).2.1 39 = .ok (.ireturn, 1) := by decide +kernel
theorem d_149_40 : decode (mth 149).2.1 40 = .ok (.aload_n 0, 1) := by decide +kernel
theorem d_149_41 : decode (mth 149).2.1 41 = .ok (.getfield 49, 3) := by decide +kernel
theorem d_149_44 : decode (mth 149).2.1 44 = .ok (.getfield 341, 3) := by decide +kernel
theorem d_149_47 : decode (mth 149).2.1 47 = .ok (.iload_n 1, 1) := by decide +kernel
theorem d_149_48 : decode (mth 149).2.1 48 = .ok (.aaload, 1) := by decide +kernel
theorem d_149_49 : decode (mth 149).2.1 49 = .ok (.iload_n 2, 1) := by decide +kernel
theorem d_149_50 : decode (mth 149).2.1 50 = .ok (.aload_n 0, 1) := by decide +kernel
theorem d_149_51 : decode (mth 149).2.1 51 = .ok (.getfield 49, 3) := by decide +kernel
theorem d_149_54 : decode (mth 149).2.1 54 = .ok (.getfield 335, 3) := by decide +kernel
theorem d_149_57 : decode (mth 149).2.1 57 = .ok (.iload_n 1, 1) := by decide +kernel
theorem d_149_58 : decode (mth 149).2.1 58 = .ok (.iaload, 1) := by decide +kernel
theorem d_149_59 : decode (mth 149).2.1 59 = .ok (.iload_n 3, 1) := by decide +kernel
theorem d_149_60 : decode (mth 149).2.1 60 = .ok (.invokestatic 345, 3) := by decide +kernel
theorem d_149_63 : decode (mth 149).2.1 63 = .ok (.iastore, 1) := by decide +kernel
theorem d_149_64 : decode (mth 149).2.1 64 = .ok (.iconst 1, 1) := by decide +kernel
theorem d_149_65 : decode (mth 149).2.1 65 = .ok (.ireturn, 1) := by decide +kernel
/-! 152 PlayedTruth.item(III)I -/
theorem d_152_0 : decode (mth 152).2.1 0 = .ok (.iload_n 1, 1) := by decide +kernel
theorem d_152_1 : decode (mth 152).2.1 1 = .ok (.invokestatic 328, 3) := by decide +kernel
theorem d_152_4 : decode (mth 152).2.1 4 = .ok (.ifCond .eq 12, 3) := by decide +kernel
theorem d_152_7 : decode (mth 152).2.1 7 = .ok (.iload_n 2, 1) := by decide +kernel
theorem d_152_8 : decode (mth 152).2.1 8 = .ok (.iconst 0, 1) := by decide +kernel
theorem d_152_9 : decode (mth 152).2.1 9 = .ok (.iconst 4, 1) := by decide +kernel
theorem d_152_10 : decode (mth 152).2.1 10 = .ok (.invokestatic 83, 3) := by decide +kernel
theorem d_152_13 : decode (mth 152).2.1 13 = .ok (.ifCond .ne 5, 3) := by decide +kernel
theorem d_152_16 : decode (mth 152).2.1 16 = .ok (.iconst (-1), 1) := by decide +kernel
theorem d_152_17 : decode (mth 152).2.1 17 = .ok (.ireturn, 1) := by decide +kernel
theorem d_152_18 : decode (mth 152).2.1 18 = .ok (.aload_n 0, 1) := by decide +kernel
theorem d_152_19 : decode (mth 152).2.1 19 = .ok (.getfield 49, 3) := by decide +kernel
theorem d_152_22 : decode (mth 152).2.1 22 = .ok (.iload_n 1, 1) := by decide +kernel
theorem d_152_23 : decode (mth 152).2.1 23 = .ok (.iload_n 2, 1) := by decide +kernel
theorem d_152_24 : decode (mth 152).2.1 24 = .ok (.invokevirtual 348, 3) := by decide +kernel
theorem d_152_27 : decode (mth 152).2.1 27 = .ok (.istore 4, 2) := by decide +kernel
theorem d_152_29 : decode (mth 152).2.1 29 = .ok (.iload 4, 2) := by decide +kernel
theorem d_152_31 : decode (mth 152).2.1 31 = .ok (.ifCond .eq 6, 3) := by decide +kernel
theorem d_152_34 : decode (mth 152).2.1 34 = .ok (.iload 4, 2) := by decide +kernel
theorem d_152_36 : decode (mth 152).2.1 36 = .ok (.ireturn, 1) := by decide +kernel
theorem d_152_37 : decode (mth 152).2.1 37 = .ok (.aload_n 0, 1) := by decide +kernel
theorem d_152_38 : decode (mth 152).2.1 38 = .ok (.getfield 49, 3) := by decide +kernel
theorem d_152_41 : decode (mth 152).2.1 41 = .ok (.iload_n 1, 1) := by decide +kernel
theorem d_152_42 : decode (mth 152).2.1 42 = .ok (.iload_n 3, 1) := by decide +kernel
theorem d_152_43 : decode (mth 152).2.1 43 = .ok (.invokevirtual 338, 3) := by decide +kernel
theorem d_152_46 : decode (mth 152).2.1 46 = .ok (.ifCond .eq 17, 3) := by decide +kernel
theorem d_152_49 : decode (mth 152).2.1 49 = .ok (.aload_n 0, 1) := by decide +kernel
theorem d_152_50 : decode (mth 152).2.1 50 = .ok (.getfield 49, 3) := by decide +kernel
theorem d_152_53 : decode (mth 152).2.1 53 = .ok (.getfield 341, 3) := by decide +kernel
theorem d_152_56 : decode (mth 152).2.1 56 = .ok (.iload_n 1, 1) := by decide +kernel
theorem d_152_57 : decode (mth 152).2.1 57 = .ok (.aaload, 1) := by decide +kernel
theorem d_152_58 : decode (mth 152).2.1 58 = .ok (.iload_n 3, 1) := by decide +kernel
theorem d_152_59 : decode (mth 152).2.1 59 = .ok (.iaload, 1) := by decide +kernel
theorem d_152_60 : decode (mth 152).2.1 60 = .ok (.goto 5, 3) := by decide +kernel
theorem d_152_63 : decode (mth 152).2.1 63 = .ok (.bipush (-12), 2) := by decide +kernel
theorem d_152_65 : decode (mth 152).2.1 65 = .ok (.ireturn, 1) := by decide +kernel
/-! 154 PlayedTruth.goAll(III)I -/
theorem d_154_0 : decode (mth 154).2.1 0 = .ok (.iload_n 1, 1) := by decide +kernel
theorem d_154_1 : decode (mth 154).2.1 1 = .ok (.invokestatic 328, 3) := by decide +kernel
theorem d_154_4 : decode (mth 154).2.1 4 = .ok (.ifCond .eq 13, 3) := by decide +kernel
theorem d_154_7 : decode (mth 154).2.1 7 = .ok (.iload_n 3, 1) := by decide +kernel
theorem d_154_8 : decode (mth 154).2.1 8 = .ok (.iconst 0, 1) := by decide +kernel
theorem d_154_9 : decode (mth 154).2.1 9 = .ok (.bipush 20, 2) := by decide +kernel
theorem d_154_11 : decode (mth 154).2.1 11 = .ok (.invokestatic 83, 3) := by decide +kernel
theorem d_154_14 : decode (mth 154).2.1 14 = .ok (.ifCond .ne 5, 3) := by decide +kernel
theorem d_154_17 : decode (mth 154).2.1 17 = .ok (.iconst (-1), 1) := by decide +kernel
theorem d_154_18 : decode (mth 154).2.1 18 = .ok (.ireturn, 1) := by decide +kernel
theorem d_154_19 : decode (mth 154).2.1 19 = .ok (.aload_n 0, 1) := by decide +kernel
theorem d_154_20 : decode (mth 154).2.1 20 = .ok (.getfield 49, 3) := by decide +kernel
theorem d_154_23 : decode (mth 154).2.1 23 = .ok (.iload_n 1, 1) := by decide +kernel
theorem d_154_24 : decode (mth 154).2.1 24 = .ok (.iconst 0, 1) := by decide +kernel
theorem d_154_25 : decode (mth 154).2.1 25 = .ok (.invokevirtual 348, 3) := by decide +kernel
theorem d_154_28 : decode (mth 154).2.1 28 = .ok (.istore 4, 2) := by decide +kernel
theorem d_154_30 : decode (mth 154).2.1 30 = .ok (.iload 4, 2) := by decide +kernel
theorem d_154_32 : decode (mth 154).2.1 32 = .ok (.ifCond .eq 6, 3) := by decide +kernel
theorem d_154_35 : decode (mth 154).2.1 35 = .ok (.iload 4, 2) := by decide +kernel
theorem d_154_37 : decode (mth 154).2.1 37 = .ok (.ireturn, 1) := by decide +kernel
theorem d_154_38 : decode (mth 154).2.1 38 = .ok (.iconst 0, 1) := by decide +kernel
theorem d_154_39 : decode (mth 154).2.1 39 = .ok (.istore 5, 2) := by decide +kernel
theorem d_154_41 : decode (mth 154).2.1 41 = .ok (.iconst 0, 1) := by decide +kernel
theorem d_154_42 : decode (mth 154).2.1 42 = .ok (.istore 6, 2) := by decide +kernel
theorem d_154_44 : decode (mth 154).2.1 44 = .ok (.iload 6, 2) := by decide +kernel
theorem d_154_46 : decode (mth 154).2.1 46 = .ok (.iload_n 3, 1) := by decide +kernel
theorem d_154_47 : decode (mth 154).2.1 47 = .ok (.if_icmp .ge 87, 3) := by decide +kernel
theorem d_154_50 : decode (mth 154).2.1 50 = .ok (.aload_n 0, 1) := by decide +kernel
theorem d_154_51 : decode (mth 154).2.1 51 = .ok (.getfield 49, 3) := by decide +kernel
theorem d_154_54 : decode (mth 154).2.1 54 = .ok (.iload_n 1, 1) := by decide +kernel
theorem d_154_55 : decode (mth 154).2.1 55 = .ok (.iload_n 2, 1) := by decide +kernel
theorem d_154_56 : decode (mth 154).2.1 56 = .ok (.iload 6, 2) := by decide +kernel
theorem d_154_58 : decode (mth 154).2.1 58 = .ok (.iadd, 1) := by decide +kernel
theorem d_154_59 : decode (mth 154).2.1 59 = .ok (.invokevirtual 338, 3) := by decide +kernel
theorem d_154_62 : decode (mth 154).2.1 62 = .ok (.ifCond .ne 6, 3) := by decide +kernel
theorem d_154_65 : decode (mth 154).2.1 65 = .ok (.bipush (-12), 2) := by decide +kernel
theorem d_154_67 : decode (mth 154).2.1 67 = .ok (.ireturn, 1) := by decide +kernel
theorem d_154_68 : decode (mth 154).2.1 68 = .ok (.aload_n 0, 1) := by decide +kernel
theorem d_154_69 : decode (mth 154).2.1 69 = .ok (.getfield 49, 3) := by decide +kernel
theorem d_154_72 : decode (mth 154).2.1 72 = .ok (.getfield 341, 3) := by decide +kernel
theorem d_154_75 : decode (mth 154).2.1 75 = .ok (.iload_n 1, 1) := by decide +kernel
theorem d_154_76 : decode (mth 154).2.1 76 = .ok (.aaload, 1) := by decide +kernel
theorem d_154_77 : decode (mth 154).2.1 77 = .ok (.iload_n 2, 1) := by decide +kernel
theorem d_154_78 : decode (mth 154).2.1 78 = .ok (.iload 6, 2) := by decide +kernel
theorem d_154_80 : decode (mth 154).2.1 80 = .ok (.iadd, 1) := by decide +kernel
theorem d_154_81 : decode (mth 154).2.1 81 = .ok (.iaload, 1) := by decide +kernel
theorem d_154_82 : decode (mth 154).2.1 82 = .ok (.istore 7, 2) := by decide +kernel
theorem d_154_84 : decode (mth 154).2.1 84 = .ok (.aload_n 0, 1) := by decide +kernel
theorem d_154_85 : decode (mth 154).2.1 85 = .ok (.getfield 10, 3) := by decide +kernel
theorem d_154_88 : decode (mth 154).2.1 88 = .ok (.iload 7, 2) := by decide +kernel
theorem d_154_90 : decode (mth 154).2.1 90 = .ok (.invokevirtual 351, 3) := by decide +kernel
theorem d_154_93 : decode (mth 154).2.1 93 = .ok (.ifCond .eq 35, 3) := by decide +kernel
theorem d_154_96 : decode (mth 154).2.1 96 = .ok (.aload_n 0, 1) := by decide +kernel
theorem d_154_97 : decode (mth 154).2.1 97 = .ok (.getfield 10, 3) := by decide +kernel
theorem d_154_100 : decode (mth 154).2.1 100 = .ok (.aload_n 0, 1) := by decide +kernel
theorem d_154_101 : decode (mth 154).2.1 101 = .ok (.getfield 19, 3) := by decide +kernel
theorem d_154_104 : decode (mth 154).2.1 104 = .ok (.invokevirtual 158, 3) := by decide +kernel
theorem d_154_107 : decode (mth 154).2.1 107 = .ok (.ifCond .ne 21, 3) := by decide +kernel
theorem d_154_110 : decode (mth 154).2.1 110 = .ok (.iload 5, 2) := by decide +kernel
theorem d_154_112 : decode (mth 154).2.1 112 = .ok (.aload_n 0, 1) := by decide +kernel
theorem d_154_113 : decode (mth 154).2.1 113 = .ok (.getfield 10, 3) := by decide +kernel
theorem d_154_116 : decode (mth 154).2.1 116 = .ok (.aload_n 0, 1) := by decide +kernel
theorem d_154_117 : decode (mth 154).2.1 117 = .ok (.getfield 19, 3) := by decide +kernel
theorem d_154_120 : decode (mth 154).2.1 120 = .ok (.iload 7, 2) := by decide +kernel
theorem d_154_122 : decode (mth 154).2.1 122 = .ok (.invokevirtual 206, 3) := by decide +kernel
theorem d_154_125 : decode (mth 154).2.1 125 = .ok (.iadd, 1) := by decide +kernel
theorem d_154_126 : decode (mth 154).2.1 126 = .ok (.istore 5, 2) := by decide +kernel
theorem d_154_128 : decode (mth 154).2.1 128 = .ok (.iinc 6 1, 3) := by decide +kernel
theorem d_154_131 : decode (mth 154).2.1 131 = .ok (.goto (-87), 3) := by decide +kernel
theorem d_154_134 : decode (mth 154).2.1 134 = .ok (.iload 5, 2) := by decide +kernel
theorem d_154_136 : decode (mth 154).2.1 136 = .ok (.ireturn, 1) := by decide +kernel
/-! 155 PlayedTruth.wouldBe(III)I -/
theorem d_155_0 : decode (mth 155).2.1 0 = .ok (.iload_n 1, 1) := by decide +kernel
theorem d_155_1 : decode (mth 155).2.1 1 = .ok (.invokestatic 328, 3) := by decide +kernel
theorem d_155_4 : decode (mth 155).2.1 4 = .ok (.ifCond .eq 13, 3) := by decide +kernel
theorem d_155_7 : decode (mth 155).2.1 7 = .ok (.iload_n 3, 1) := by decide +kernel
theorem d_155_8 : decode (mth 155).2.1 8 = .ok (.iconst 0, 1) := by decide +kernel
theorem d_155_9 : decode (mth 155).2.1 9 = .ok (.bipush 20, 2) := by decide +kernel
theorem d_155_11 : decode (mth 155).2.1 11 = .ok (.invokestatic 83, 3) := by decide +kernel
theorem d_155_14 : decode (mth 155).2.1 14 = .ok (.ifCond .ne 5, 3) := by decide +kernel
theorem d_155_17 : decode (mth 155).2.1 17 = .ok (.iconst (-1), 1) := by decide +kernel
theorem d_155_18 : decode (mth 155).2.1 18 = .ok (.ireturn, 1) := by decide +kernel
theorem d_155_19 : decode (mth 155).2.1 19 = .ok (.aload_n 0, 1) := by decide +kernel
theorem d_155_20 : decode (mth 155).2.1 20 = .ok (.getfield 49, 3) := by decide +kernel
theorem d_155_23 : decode (mth 155).2.1 23 = .ok (.iload_n 1, 1) := by decide +kernel
theorem d_155_24 : decode (mth 155).2.1 24 = .ok (.iconst 0, 1) := by decide +kernel
theorem d_155_25 : decode (mth 155).2.1 25 = .ok (.invokevirtual 348, 3) := by decide +kernel
theorem d_155_28 : decode (mth 155).2.1 28 = .ok (.istore 4, 2) := by decide +kernel
theorem d_155_30 : decode (mth 155).2.1 30 = .ok (.iload 4, 2) := by decide +kernel
theorem d_155_32 : decode (mth 155).2.1 32 = .ok (.ifCond .eq 8, 3) := by decide +kernel
theorem d_155_35 : decode (mth 155).2.1 35 = .ok (.iload 4, 2) := by decide +kernel
theorem d_155_37 : decode (mth 155).2.1 37 = .ok (.goto 17, 3) := by decide +kernel
theorem d_155_40 : decode (mth 155).2.1 40 = .ok (.aload_n 0, 1) := by decide +kernel
theorem d_155_41 : decode (mth 155).2.1 41 = .ok (.getfield 42, 3) := by decide +kernel
theorem d_155_44 : decode (mth 155).2.1 44 = .ok (.aload_n 0, 1) := by decide +kernel
theorem d_155_45 : decode (mth 155).2.1 45 = .ok (.getfield 49, 3) := by decide +kernel
theorem d_155_48 : decode (mth 155).2.1 48 = .ok (.iload_n 1, 1) := by decide +kernel
theorem d_155_49 : decode (mth 155).2.1 49 = .ok (.iload_n 2, 1) := by decide +kernel
theorem d_155_50 : decode (mth 155).2.1 50 = .ok (.iload_n 3, 1) := by decide +kernel
theorem d_155_51 : decode (mth 155).2.1 51 = .ok (.invokevirtual 354, 3) := by decide +kernel
theorem d_155_54 : decode (mth 155).2.1 54 = .ok (.ireturn, 1) := by decide +kernel
/-! 157 PlayedTruth.shelf(III)I -/
theorem d_157_0 : decode (mth 157).2.1 0 = .ok (.iload_n 1, 1) := by decide +kernel
theorem d_157_1 : decode (mth 157).2.1 1 = .ok (.invokestatic 358, 3) := by decide +kernel
theorem d_157_4 : decode (mth 157).2.1 4 = .ok (.ifCond .ne 5, 3) := by decide +kernel
theorem d_157_7 : decode (mth 157).2.1 7 = .ok (.iconst (-1), 1) := by decide +kernel
theorem d_157_8 : decode (mth 157).2.1 8 = .ok (.ireturn, 1) := by decide +kernel
theorem d_157_9 : decode (mth 157).2.1 9 = .ok (.iload_n 2, 1) := by decide +kernel
theorem d_157_10 : decode (mth 157).2.1 10 = .ok (.tableswitch 83 0 2 #[26, 50, 71], 26) := by decide +kernel
theorem d_157_36 : decode (mth 157).2.1 36 = .ok (.aload_n 0, 1) := by decide +kernel
theorem d_157_37 : decode (mth 157).2.1 37 = .ok (.iload_n 3, 1) := by decide +kernel
theorem d_157_38 : decode (mth 157).2.1 38 = .ok (.invokevirtual 106, 3) := by decide +kernel
theorem d_157_41 : decode (mth 157).2.1 41 = .ok (.ifCond .eq 17, 3) := by decide +kernel
theorem d_157_44 : decode (mth 157).2.1 44 = .ok (.aload_n 0, 1) := by decide +kernel
theorem d_157_45 : decode (mth 157).2.1 45 = .ok (.getfield 49, 3) := by decide +kernel
theorem d_157_48 : decode (mth 157).2.1 48 = .ok (.iload_n 1, 1) := by decide +kernel
theorem d_157_49 : decode (mth 157).2.1 49 = .ok (.iconst 1, 1) := by decide +kernel
theorem d_157_50 : decode (mth 157).2.1 50 = .ok (.iload_n 3, 1) := by decide +kernel
theorem d_157_51 : decode (mth 157).2.1 51 = .ok (.iconst 0, 1) := by decide +kernel
theorem d_157_52 : decode (mth 157).2.1 52 = .ok (.invokevirtual 361, 3) := by decide +kernel
theorem d_157_55 : decode (mth 157).2.1 55 = .ok (.goto 4, 3) := by decide +kernel
theorem d_157_58 : decode (mth 157).2.1 58 = .ok (.iconst (-1), 1) := by decide +kernel
theorem d_157_59 : decode (mth 157).2.1 59 = .ok (.ireturn, 1) := by decide +kernel
theorem d_157_60 : decode (mth 157).2.1 60 = .ok (.iload_n 3, 1) := by decide +kernel
theorem d_157_61 : decode (mth 157).2.1 61 = .ok (.invokestatic 328, 3) := by decide +kernel
theorem d_157_64 : decode (mth 157).2.1 64 = .ok (.ifCond .eq 15, 3) := by decide +kernel
theorem d_157_67 : decode (mth 157).2.1 67 = .ok (.aload_n 0, 1) := by decide +kernel
theorem d_157_68 : decode (mth 157).2.1 68 = .ok (.getfield 49, 3) := by decide +kernel
theorem d_157_71 : decode (mth 157).2.1 71 = .ok (.iload_n 1, 1) := by decide +kernel
theorem d_157_72 : decode (mth 157).2.1 72 = .ok (.iload_n 3, 1) := by decide +kernel
theorem d_157_73 : decode (mth 157).2.1 73 = .ok (.invokevirtual 364, 3) := by decide +kernel
theorem d_157_76 : decode (mth 157).2.1 76 = .ok (.goto 4, 3) := by decide +kernel
theorem d_157_79 : decode (mth 157).2.1 79 = .ok (.iconst (-1), 1) := by decide +kernel
theorem d_157_80 : decode (mth 157).2.1 80 = .ok (.ireturn, 1) := by decide +kernel
theorem d_157_81 : decode (mth 157).2.1 81 = .ok (.aload_n 0, 1) := by decide +kernel
theorem d_157_82 : decode (mth 157).2.1 82 = .ok (.getfield 49, 3) := by decide +kernel
theorem d_157_85 : decode (mth 157).2.1 85 = .ok (.iload_n 1, 1) := by decide +kernel
theorem d_157_86 : decode (mth 157).2.1 86 = .ok (.iconst 0, 1) := by decide +kernel
theorem d_157_87 : decode (mth 157).2.1 87 = .ok (.iconst 0, 1) := by decide +kernel
theorem d_157_88 : decode (mth 157).2.1 88 = .ok (.iconst 0, 1) := by decide +kernel
theorem d_157_89 : decode (mth 157).2.1 89 = .ok (.invokevirtual 361, 3) := by decide +kernel
theorem d_157_92 : decode (mth 157).2.1 92 = .ok (.ireturn, 1) := by decide +kernel
theorem d_157_93 : decode (mth 157).2.1 93 = .ok (.iconst (-1), 1) := by decide +kernel
theorem d_157_94 : decode (mth 157).2.1 94 = .ok (.ireturn, 1) := by decide +kernel
/-! 161 PlayedTruth.taken(II)I -/
theorem d_161_0 : decode (mth 161).2.1 0 = .ok (.iload_n 2, 1) := by decide +kernel
theorem d_161_1 : decode (mth 161).2.1 1 = .ok (.iconst 0, 1) := by decide +kernel
theorem d_161_2 : decode (mth 161).2.1 2 = .ok (.iconst 5, 1) := by decide +kernel
theorem d_161_3 : decode (mth 161).2.1 3 = .ok (.invokestatic 83, 3) := by decide +kernel
theorem d_161_6 : decode (mth 161).2.1 6 = .ok (.istore_n 3, 1) := by decide +kernel
theorem d_161_7 : decode (mth 161).2.1 7 = .ok (.iload_n 1, 1) := by decide +kernel
theorem d_161_8 : decode (mth 161).2.1 8 = .ok (.invokestatic 358, 3) := by decide +kernel
theorem d_161_11 : decode (mth 161).2.1 11 = .ok (.ifCond .eq 18, 3) := by decide +kernel
theorem d_161_14 : decode (mth 161).2.1 14 = .ok (.iload_n 3, 1) := by decide +kernel
theorem d_161_15 : decode (mth 161).2.1 15 = .ok (.ifCond .ne 16, 3) := by decide +kernel
theorem d_161_18 : decode (mth 161).2.1 18 = .ok (.iload_n 2, 1) := by decide +kernel
theorem d_161_19 : decode (mth 161).2.1 19 = .ok (.bipush 10, 2) := by decide +kernel
theorem d_161_21 : decode (mth 161).2.1 21 = .ok (.bipush 14, 2) := by decide +kernel
theorem d_161_23 : decode (mth 161).2.1 23 = .ok (.invokestatic 83, 3) := by decide +kernel
theorem d_161_26 : decode (mth 161).2.1 26 = .ok (.ifCond .ne 5, 3) := by decide +kernel
theorem d_161_29 : decode (mth 161).2.1 29 = .ok (.iconst (-1), 1) := by decide +kernel
theorem d_161_30 : decode (mth 161).2.1 30 = .ok (.ireturn, 1) := by decide +kernel
theorem d_161_31 : decode (mth 161).2.1 31 = .ok (.aload_n 0, 1) := by decide +kernel
theorem d_161_32 : decode (mth 161).2.1 32 = .ok (.iload_n 1, 1) := by decide +kernel
theorem d_161_33 : decode (mth 161).2.1 33 = .ok (.invokevirtual 367, 3) := by decide +kernel
theorem d_161_36 : decode (mth 161).2.1 36 = .ok (.ifCond .eq 6, 3) := by decide +kernel
theorem d_161_39 : decode (mth 161).2.1 39 = .ok (.bipush (-11), 2) := by decide +kernel
theorem d_161_41 : decode (mth 161).2.1 41 = .ok (.ireturn, 1) := by decide +kernel
theorem d_161_42 : decode (mth 161).2.1 42 = .ok (.aload_n 0, 1) := by decide +kernel
theorem d_161_43 : decode (mth 161).2.1 43 = .ok (.getfield 49, 3) := by decide +kernel
theorem d_161_46 : decode (mth 161).2.1 46 = .ok (.getfield 370, 3) := by decide +kernel
theorem d_161_49 : decode (mth 161).2.1 49 = .ok (.iload_n 1, 1) := by decide +kernel
theorem d_161_50 : decode (mth 161).2.1 50 = .ok (.iaload, 1) := by decide +kernel
theorem d_161_51 : decode (mth 161).2.1 51 = .ok (.istore 4, 2) := by decide +kernel
theorem d_161_53 : decode (mth 161).2.1 53 = .ok (.aload_n 0, 1) := by decide +kernel
theorem d_161_54 : decode (mth 161).2.1 54 = .ok (.getfield 49, 3) := by decide +kernel
theorem d_161_57 : decode (mth 161).2.1 57 = .ok (.getfield 373, 3) := by decide +kernel
theorem d_161_60 : decode (mth 161).2.1 60 = .ok (.iload_n 1, 1) := by decide +kernel
theorem d_161_61 : decode (mth 161).2.1 61 = .ok (.iaload, 1) := by decide +kernel
theorem d_161_62 : decode (mth 161).2.1 62 = .ok (.iconst 2, 1) := by decide +kernel
theorem d_161_63 : decode (mth 161).2.1 63 = .ok (.if_icmp .ne 27, 3) := by decide +kernel
theorem d_161_66 : decode (mth 161).2.1 66 = .ok (.iload 4, 2) := by decide +kernel
theorem d_161_68 : decode (mth 161).2.1 68 = .ok (.iload_n 2, 1) := by decide +kernel
theorem d_161_69 : decode (mth 161).2.1 69 = .ok (.bipush 10, 2) := by decide +kernel
theorem d_161_71 : decode (mth 161).2.1 71 = .ok (.isub, 1) := by decide +kernel
theorem d_161_72 : decode (mth 161).2.1 72 = .ok (.if_icmp .ne 15, 3) := by decide +kernel
theorem d_161_75 : decode (mth 161).2.1 75 = .ok (.aload_n 0, 1) := by decide +kernel
theorem d_161_76 : decode (mth 161).2.1 76 = .ok (.getfield 49, 3) := by decide +kernel
theorem d_161_79 : decode (mth 161).2.1 79 = .ok (.getfield 376, 3) := by decide +kernel
theorem d_161_82 : decode (mth 161).2.1 82 = .ok (.iload_n 1, 1) := by decide +kernel
theorem d_161_83 : decode (mth 161).2.1 83 = .ok (.iaload, 1) := by decide +kernel
theorem d_161_84 : decode (mth 161).2.1 84 = .ok (.goto 5, 3) := by decide +kernel
theorem d_161_87 : decode (mth 161).2.1 87 = .ok (.bipush (-13), 2) := by decide +kernel
theorem d_161_89 : decode (mth 161).2.1 89 = .ok (.ireturn, 1) := by decide +kernel
theorem d_161_90 : decode (mth 161).2.1 90 = .ok (.iload_n 3, 1) := by decide +kernel
theorem d_161_91 : decode (mth 161).2.1 91 = .ok (.ifCond .eq 25, 3) := by decide +kernel
theorem d_161_94 : decode (mth 161).2.1 94 = .ok (.aload_n 0, 1) := by decide +kernel
theorem d_161_95 : decode (mth 161).2.1 95 = .ok (.getfield 10, 3) := by decide +kernel
theorem d_161_98 : decode (mth 161).2.1 98 = .ok (.getfield 94, 3) := by decide +kernel
theorem d_161_101 : decode (mth 161).2.1 101 = .ok (.iload 4, 2) := by decide +kernel
theorem d_161_103 : decode (mth 161).2.1 103 = .ok (.iaload, 1) := by decide +kernel
theorem d_161_104 : decode (mth 161).2.1 104 = .ok (.iload_n 2, 1) := by decide +kernel
theorem d_161_105 : decode (mth 161).2.1 105 = .ok (.invokestatic 379, 3) := by decide +kernel
theorem d_161_108 : decode (mth 161).2.1 108 = .ok (.ifCond .eq 8, 3) := by decide +kernel
theorem d_161_111 : decode (mth 161).2.1 111 = .ok (.iload 4, 2) := by decide +kernel
theorem d_161_113 : decode (mth 161).2.1 113 = .ok (.goto 5, 3) := by decide +kernel
theorem d_161_116 : decode (mth 161).2.1 116 = .ok (.bipush (-13), 2) := by decide +kernel
theorem d_161_118 : decode (mth 161).2.1 118 = .ok (.ireturn, 1) := by decide +kernel
/-! 162 PlayedTruth.isNothing(I)Z -/
theorem d_162_0 : decode (mth 162).2.1 0 = .ok (.aload_n 0, 1) := by decide +kernel
theorem d_162_1 : decode (mth 162).2.1 1 = .ok (.getfield 49, 3) := by decide +kernel
theorem d_162_4 : decode (mth 162).2.1 4 = .ok (.getfield 373, 3) := by decide +kernel
theorem d_162_7 : decode (mth 162).2.1 7 = .ok (.iload_n 1, 1) := by decide +kernel
theorem d_162_8 : decode (mth 162).2.1 8 = .ok (.iaload, 1) := by decide +kernel
theorem d_162_9 : decode (mth 162).2.1 9 = .ok (.istore_n 2, 1) := by decide +kernel
theorem d_162_10 : decode (mth 162).2.1 10 = .ok (.iload_n 2, 1) := by decide +kernel
theorem d_162_11 : decode (mth 162).2.1 11 = .ok (.ifCond .eq 24, 3) := by decide +kernel
theorem d_162_14 : decode (mth 162).2.1 14 = .ok (.iload_n 2, 1) := by decide +kernel
theorem d_162_15 : decode (mth 162).2.1 15 = .ok (.iconst 1, 1) := by decide +kernel
theorem d_162_16 : decode (mth 162).2.1 16 = .ok (.if_icmp .ne 23, 3) := by decide +kernel
theorem d_162_19 : decode (mth 162).2.1 19 = .ok (.aload_n 0, 1) := by decide +kernel
theorem d_162_20 : decode (mth 162).2.1 20 = .ok (.aload_n 0, 1) := by decide +kernel
theorem d_162_21 : decode (mth 162).2.1 21 = .ok (.getfield 49, 3) := by decide +kernel
theorem d_162_24 : decode (mth 162).2.1 24 = .ok (.getfield 370, 3) := by decide +kernel
theorem d_162_27 : decode (mth 162).2.1 27 = .ok (.iload_n 1, 1) := by decide +kernel
theorem d_162_28 : decode (mth 162).2.1 28 = .ok (.iaload, 1) := by decide +kernel
theorem d_162_29 : decode (mth 162).2.1 29 = .ok (.invokevirtual 106, 3) := by decide +kernel
theorem d_162_32 : decode (mth 162).2.1 32 = .ok (.ifCond .ne 7, 3) := by decide +kernel
theorem d_162_35 : decode (mth 162).2.1 35 = .ok (.iconst 1, 1) := by decide +kernel
theorem d_162_36 : decode (mth 162).2.1 36 = .ok (.goto 4, 3) := by decide +kernel
theorem d_162_39 : decode (mth 162).2.1 39 = .ok (.iconst 0, 1) := by decide +kernel
theorem d_162_40 : decode (mth 162).2.1 40 = .ok (.ireturn, 1) := by decide +kernel
/-! 163 PlayedTruth.act(III)I -/
theorem d_163_0 : decode (mth 163).2.1 0 = .ok (.aload_n 0, 1) := by decide +kernel
theorem d_163_1 : decode (mth 163).2.1 1 = .ok (.getfield 56, 3) := by decide +kernel
theorem d_163_4 : decode (mth 163).2.1 4 = .ok (.invokevirtual 382, 3) := by decide +kernel
theorem d_163_7 : decode (mth 163).2.1 7 = .ok (.iload_n 1, 1) := by decide +kernel
theorem d_163_8 : decode (mth 163).2.1 8 = .ok (.invokestatic 358, 3) := by decide +kernel
theorem d_163_11 : decode (mth 163).2.1 11 = .ok (.ifCond .eq 12, 3) := by decide +kernel
theorem d_163_14 : decode (mth 163).2.1 14 = .ok (.iload_n 2, 1) := by decide +kernel
theorem d_163_15 : decode (mth 163).2.1 15 = .ok (.iconst 0, 1) := by decide +kernel
theorem d_163_16 : decode (mth 163).2.1 16 = .ok (.iconst 3, 1) := by decide +kernel
theorem d_163_17 : decode (mth 163).2.1 17 = .ok (.invokestatic 83, 3) := by decide +kernel
theorem d_163_20 : decode (mth 163).2.1 20 = .ok (.ifCond .ne 5, 3) := by decide +kernel
theorem d_163_23 : decode (mth 163).2.1 23 = .ok (.iconst 0, 1) := by decide +kernel
theorem d_163_24 : decode (mth 163).2.1 24 = .ok (.ireturn, 1) := by decide +kernel
theorem d_163_25 : decode (mth 163).2.1 25 = .ok (.aload_n 0, 1) := by decide +kernel
theorem d_163_26 : decode (mth 163).2.1 26 = .ok (.iload_n 1, 1) := by decide +kernel
theorem d_163_27 : decode (mth 163).2.1 27 = .ok (.invokevirtual 367, 3) := by decide +kernel
theorem d_163_30 : decode (mth 163).2.1 30 = .ok (.ifCond .ne 16, 3) := by decide +kernel
theorem d_163_33 : decode (mth 163).2.1 33 = .ok (.aload_n 0, 1) := by decide +kernel
theorem d_163_34 : decode (mth 163).2.1 34 = .ok (.getfield 49, 3) := by decide +kernel
theorem d_163_37 : decode (mth 163).2.1 37 = .ok (.getfield 373, 3) := by decide +kernel
theorem d_163_40 : decode (mth 163).2.1 40 = .ok (.iload_n 1, 1) := by decide +kernel
theorem d_163_41 : decode (mth 163).2.1 41 = .ok (.iaload, 1) := by decide +kernel
theorem d_163_42 : decode (mth 163).2.1 42 = .ok (.iconst 2, 1) := by decide +kernel
theorem d_163_43 : decode (mth 163).2.1 43 = .ok (.if_icmp .ne 5, 3) := by decide +kernel
theorem d_163_46 : decode (mth 163).2.1 46 = .ok (.iconst 0, 1) := by decide +kernel
theorem d_163_47 : decode (mth 163).2.1 47 = .ok (.ireturn, 1) := by decide +kernel
theorem d_163_48 : decode (mth 163).2.1 48 = .ok (.aload_n 0, 1) := by decide +kernel
theorem d_163_49 : decode (mth 163).2.1 49 = .ok (.getfield 49, 3) := by decide +kernel
theorem d_163_52 : decode (mth 163).2.1 52 = .ok (.getfield 370, 3) := by decide +kernel
theorem d_163_55 : decode (mth 163).2.1 55 = .ok (.iload_n 1, 1) := by decide +kernel
theorem d_163_56 : decode (mth 163).2.1 56 = .ok (.iaload, 1) := by decide +kernel
theorem d_163_57 : decode (mth 163).2.1 57 = .ok (.istore 4, 2) := by decide +kernel
theorem d_163_59 : decode (mth 163).2.1 59 = .ok (.aload_n 0, 1) := by decide +kernel
theorem d_163_60 : decode (mth 163).2.1 60 = .ok (.getfield 56, 3) := by decide +kernel
theorem d_163_63 : decode (mth 163).2.1 63 = .ok (.aload_n 0, 1) := by decide +kernel
theorem d_163_64 : decode (mth 163).2.1 64 = .ok (.getfield 10, 3) := by decide +kernel
theorem d_163_67 : decode (mth 163).2.1 67 = .ok (.getfield 94, 3) := by decide +kernel
theorem d_163_70 : decode (mth 163).2.1 70 = .ok (.iload 4, 2) := by decide +kernel
theorem d_163_72 : decode (mth 163).2.1 72 = .ok (.iaload, 1) := by decide +kernel
theorem d_163_73 : decode (mth 163).2.1 73 = .ok (.iload 4, 2) := by decide +kernel
theorem d_163_75 : decode (mth 163).2.1 75 = .ok (.aload_n 0, 1) := by decide +kernel
theorem d_163_76 : decode (mth 163).2.1 76 = .ok (.getfield 10, 3) := by decide +kernel
theorem d_163_79 : decode (mth 163).2.1 79 = .ok (.getfield 97, 3) := by decide +kernel
theorem d_163_82 : decode (mth 163).2.1 82 = .ok (.iload 4, 2) := by decide +kernel
theorem d_163_84 : decode (mth 163).2.1 84 = .ok (.iaload, 1) := by decide +kernel
theorem d_163_85 : decode (mth 163).2.1 85 = .ok (.iload_n 2, 1) := by decide +kernel
theorem d_163_86 : decode (mth 163).2.1 86 = .ok (.iload_n 3, 1) := by decide +kernel
theorem d_163_87 : decode (mth 163).2.1 87 = .ok (.invokevirtual 385, 3) := by decide +kernel
theorem d_163_90 : decode (mth 163).2.1 90 = .ok (.ireturn, 1) := by decide +kernel
/-! 169 PlayedTruth.trace(I)I -/
theorem d_169_0 : decode (mth 169).2.1 0 = .ok (.iload_n 1, 1) := by decide +kernel
theorem d_169_1 : decode (mth 169).2.1 1 = .ok (.iconst 0, 1) := by decide +kernel
theorem d_169_2 : decode (mth 169).2.1 2 = .ok (.aload_n 0, 1) := by decide +kernel
theorem d_169_3 : decode (mth 169).2.1 3 = .ok (.getfield 56, 3) := by decide +kernel
theorem d_169_6 : decode (mth 169).2.1 6 = .ok (.getfield 389, 3) := by decide +kernel
theorem d_169_9 : decode (mth 169).2.1 9 = .ok (.iconst 1, 1) := by decide +kernel
theorem d_169_10 : decode (mth 169).2.1 10 = .ok (.isub, 1) := by decide +kernel
theorem d_169_11 : decode (mth 169).2.1 11 = .ok (.invokestatic 83, 3) := by decide +kernel
theorem d_169_14 : decode (mth 169).2.1 14 = .ok (.ifCond .eq 15, 3) := by decide +kernel
theorem d_169_17 : decode (mth 169).2.1 17 = .ok (.aload_n 0, 1) := by decide +kernel
theorem d_169_18 : decode (mth 169).2.1 18 = .ok (.getfield 56, 3) := by decide +kernel
theorem d_169_21 : decode (mth 169).2.1 21 = .ok (.getfield 390, 3) := by decide +kernel
theorem d_169_24 : decode (mth 169).2.1 24 = .ok (.iload_n 1, 1) := by decide +kernel
theorem d_169_25 : decode (mth 169).2.1 25 = .ok (.iaload, 1) := by decide +kernel
theorem d_169_26 : decode (mth 169).2.1 26 = .ok (.goto 5, 3) := by decide +kernel
theorem d_169_29 : decode (mth 169).2.1 29 = .ok (.bipush (-3), 2) := by decide +kernel
theorem d_169_31 : decode (mth 169).2.1 31 = .ok (.ireturn, 1) := by decide +kernel
/-! 170 PlayedTruth.many(I)I -/
theorem d_170_0 : decode (mth 170).2.1 0 = .ok (.iload_n 1, 1) := by decide +kernel
theorem d_170_1 : decode (mth 170).2.1 1 = .ok (.tableswitch 102 0 6 #[43, 51, 62, 73, 81, 86, 94], 43) := by decide +kernel
theorem d_170_44 : decode (mth 170).2.1 44 = .ok (.aload_n 0, 1) := by decide +kernel
theorem d_170_45 : decode (mth 170).2.1 45 = .ok (.getfield 10, 3) := by decide +kernel
theorem d_170_48 : decode (mth 170).2.1 48 = .ok (.getfield 91, 3) := by decide +kernel
theorem d_170_51 : decode (mth 170).2.1 51 = .ok (.ireturn, 1) := by decide +kernel
theorem d_170_52 : decode (mth 170).2.1 52 = .ok (.aload_n 0, 1) := by decide +kernel
theorem d_170_53 : decode (mth 170).2.1 53 = .ok (.getfield 10, 3) := by decide +kernel
theorem d_170_56 : decode (mth 170).2.1 56 = .ok (.getfield 187, 3) := by decide +kernel
theorem d_170_59 : decode (mth 170).2.1 59 = .ok (.getfield 200, 3) := by decide +kernel
theorem d_170_62 : decode (mth 170).2.1 62 = .ok (.ireturn, 1) := by decide +kernel
theorem d_170_63 : decode (mth 170).2.1 63 = .ok (.aload_n 0, 1) := by decide +kernel
theorem d_170_64 : decode (mth 170).2.1 64 = .ok (.getfield 19, 3) := by decide +kernel
theorem d_170_67 : decode (mth 170).2.1 67 = .ok (.getfield 137, 3) := by decide +kernel
theorem d_170_70 : decode (mth 170).2.1 70 = .ok (.invokestatic 238, 3) := by decide +kernel
theorem d_170_73 : decode (mth 170).2.1 73 = .ok (.ireturn, 1) := by decide +kernel
theorem d_170_74 : decode (mth 170).2.1 74 = .ok (.aload_n 0, 1) := by decide +kernel
theorem d_170_75 : decode (mth 170).2.1 75 = .ok (.getfield 26, 3) := by decide +kernel
theorem d_170_78 : decode (mth 170).2.1 78 = .ok (.getfield 287, 3) := by decide +kernel
theorem d_170_81 : decode (mth 170).2.1 81 = .ok (.ireturn, 1) := by decide +kernel
theorem d_170_82 : decode (mth 170).2.1 82 = .ok (.aload_n 0, 1) := by decide +kernel
theorem d_170_83 : decode (mth 170).2.1 83 = .ok (.getfield 64, 3) := by decide +kernel
theorem d_170_86 : decode (mth 170).2.1 86 = .ok (.ireturn, 1) := by decide +kernel
theorem d_170_87 : decode (mth 170).2.1 87 = .ok (.aload_n 0, 1) := by decide +kernel
theorem d_170_88 : decode (mth 170).2.1 88 = .ok (.getfield 33, 3) := by decide +kernel
theorem d_170_91 : decode (mth 170).2.1 91 = .ok (.getfield 177, 3) := by decide +kernel
theorem d_170_94 : decode (mth 170).2.1 94 = .ok (.ireturn, 1) := by decide +kernel
theorem d_170_95 : decode (mth 170).2.1 95 = .ok (.aload_n 0, 1) := by decide +kernel
theorem d_170_96 : decode (mth 170).2.1 96 = .ok (.getfield 56, 3) := by decide +kernel
theorem d_170_99 : decode (mth 170).2.1 99 = .ok (.getfield 389, 3) := by decide +kernel
theorem d_170_102 : decode (mth 170).2.1 102 = .ok (.ireturn, 1) := by decide +kernel
theorem d_170_103 : decode (mth 170).2.1 103 = .ok (.iconst (-1), 1) := by decide +kernel
theorem d_170_104 : decode (mth 170).2.1 104 = .ok (.ireturn, 1) := by decide +kernel
/-! 171 PlayedTruth.keep()I -/
theorem d_171_0 : decode (mth 171).2.1 0 = .ok (.aload_n 0, 1) := by decide +kernel
theorem d_171_1 : decode (mth 171).2.1 1 = .ok (.getfield 68, 3) := by decide +kernel
theorem d_171_4 : decode (mth 171).2.1 4 = .ok (.aload_n 0, 1) := by decide +kernel
theorem d_171_5 : decode (mth 171).2.1 5 = .ok (.getfield 10, 3) := by decide +kernel
theorem d_171_8 : decode (mth 171).2.1 8 = .ok (.invokevirtual 393, 3) := by decide +kernel
theorem d_171_11 : decode (mth 171).2.1 11 = .ok (.aload_n 0, 1) := by decide +kernel
theorem d_171_12 : decode (mth 171).2.1 12 = .ok (.getfield 71, 3) := by decide +kernel
theorem d_171_15 : decode (mth 171).2.1 15 = .ok (.aload_n 0, 1) := by decide +kernel
theorem d_171_16 : decode (mth 171).2.1 16 = .ok (.getfield 19, 3) := by decide +kernel
theorem d_171_19 : decode (mth 171).2.1 19 = .ok (.invokevirtual 395, 3) := by decide +kernel
theorem d_171_22 : decode (mth 171).2.1 22 = .ok (.aload_n 0, 1) := by decide +kernel
theorem d_171_23 : decode (mth 171).2.1 23 = .ok (.getfield 74, 3) := by decide +kernel
theorem d_171_26 : decode (mth 171).2.1 26 = .ok (.aload_n 0, 1) := by decide +kernel
theorem d_171_27 : decode (mth 171).2.1 27 = .ok (.getfield 26, 3) := by decide +kernel
theorem d_171_30 : decode (mth 171).2.1 30 = .ok (.invokevirtual 398, 3) := by decide +kernel
theorem d_171_33 : decode (mth 171).2.1 33 = .ok (.aload_n 0, 1) := by decide +kernel
theorem d_171_34 : decode (mth 171).2.1 34 = .ok (.iconst 1, 1) := by decide +kernel
theorem d_171_35 : decode (mth 171).2.1 35 = .ok (.putfield 77, 3) := by decide +kernel
theorem d_171_38 : decode (mth 171).2.1 38 = .ok (.iconst 1, 1) := by decide +kernel
theorem d_171_39 : decode (mth 171).2.1 39 = .ok (.ireturn, 1) := by decide +kernel
/-! 174 PlayedTruth.again()I -/
theorem d_174_0 : decode (mth 174).2.1 0 = .ok (.aload_n 0, 1) := by decide +kernel
theorem d_174_1 : decode (mth 174).2.1 1 = .ok (.getfield 77, 3) := by decide +kernel
theorem d_174_4 : decode (mth 174).2.1 4 = .ok (.ifCond .ne 6, 3) := by decide +kernel
theorem d_174_7 : decode (mth 174).2.1 7 = .ok (.bipush (-3), 2) := by decide +kernel
theorem d_174_9 : decode (mth 174).2.1 9 = .ok (.ireturn, 1) := by decide +kernel
theorem d_174_10 : decode (mth 174).2.1 10 = .ok (.aload_n 0, 1) := by decide +kernel
theorem d_174_11 : decode (mth 174).2.1 11 = .ok (.getfield 10, 3) := by decide +kernel
theorem d_174_14 : decode (mth 174).2.1 14 = .ok (.aload_n 0, 1) := by decide +kernel
theorem d_174_15 : decode (mth 174).2.1 15 = .ok (.getfield 68, 3) := by decide +kernel
theorem d_174_18 : decode (mth 174).2.1 18 = .ok (.invokevirtual 393, 3) := by decide +kernel
theorem d_174_21 : decode (mth 174).2.1 21 = .ok (.aload_n 0, 1) := by decide +kernel
theorem d_174_22 : decode (mth 174).2.1 22 = .ok (.getfield 19, 3) := by decide +kernel
theorem d_174_25 : decode (mth 174).2.1 25 = .ok (.aload_n 0, 1) := by decide +kernel
theorem d_174_26 : decode (mth 174).2.1 26 = .ok (.getfield 71, 3) := by decide +kernel
theorem d_174_29 : decode (mth 174).2.1 29 = .ok (.invokevirtual 395, 3) := by decide +kernel
theorem d_174_32 : decode (mth 174).2.1 32 = .ok (.aload_n 0, 1) := by decide +kernel
theorem d_174_33 : decode (mth 174).2.1 33 = .ok (.getfield 26, 3) := by decide +kernel
theorem d_174_36 : decode (mth 174).2.1 36 = .ok (.aload_n 0, 1) := by decide +kernel
theorem d_174_37 : decode (mth 174).2.1 37 = .ok (.getfield 74, 3) := by decide +kernel
theorem d_174_40 : decode (mth 174).2.1 40 = .ok (.invokevirtual 398, 3) := by decide +kernel
theorem d_174_43 : decode (mth 174).2.1 43 = .ok (.aload_n 0, 1) := by decide +kernel
theorem d_174_44 : decode (mth 174).2.1 44 = .ok (.getfield 10, 3) := by decide +kernel
theorem d_174_47 : decode (mth 174).2.1 47 = .ok (.getfield 91, 3) := by decide +kernel
theorem d_174_50 : decode (mth 174).2.1 50 = .ok (.ireturn, 1) := by decide +kernel
