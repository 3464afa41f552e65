/-! 147 PlayedTruth$Host.isSheet(I)Z -/
theorem d_147_0 : decode (mth 147).2.1 0 = .ok (.iload_n 0, 1) := by decide +kernel
theorem d_147_1 : decode (mth 147).2.1 1 = .ok (.ifCond .lt 12, 3) := by decide +kernel
theorem d_147_4 : decode (mth 147).2.1 4 = .ok (.iload_n 0, 1) := by decide +kernel
theorem d_147_5 : decode (mth 147).2.1 5 = .ok (.iconst 4, 1) := by decide +kernel
theorem d_147_6 : decode (mth 147).2.1 6 = .ok (.if_icmp .ge 7, 3) := by decide +kernel
theorem d_147_9 : decode (mth 147).2.1 9 = .ok (.iconst 1, 1) := by decide +kernel
theorem d_147_10 : decode (mth 147).2.1 10 = .ok (.goto 4, 3) := by decide +kernel
theorem d_147_13 : decode (mth 147).2.1 13 = .ok (.iconst 0, 1) := by decide +kernel
theorem d_147_14 : decode (mth 147).2.1 14 = .ok (.ireturn, 1) := by decide +kernel
/-! 148 PlayedTruth$Host.makeSheet(III)I -/
theorem d_148_0 : decode (mth 148).2.1 0 = .ok (.aload_n 0, 1) := by decide +kernel
theorem d_148_1 : decode (mth 148).2.1 1 = .ok (.getfield 11, 3) := by decide +kernel
theorem d_148_4 : decode (mth 148).2.1 4 = .ok (.iload_n 1, 1) := by decide +kernel
theorem d_148_5 : decode (mth 148).2.1 5 = .ok (.iload_n 2, 1) := by decide +kernel
theorem d_148_6 : decode (mth 148).2.1 6 = .ok (.iastore, 1) := by decide +kernel
theorem d_148_7 : decode (mth 148).2.1 7 = .ok (.aload_n 0, 1) := by decide +kernel
theorem d_148_8 : decode (mth 148).2.1 8 = .ok (.getfield 15, 3) := by decide +kernel
theorem d_148_11 : decode (mth 148).2.1 11 = .ok (.iload_n 1, 1) := by decide +kernel
theorem d_148_12 : decode (mth 148).2.1 12 = .ok (.iload_n 3, 1) := by decide +kernel
theorem d_148_13 : decode (mth 148).2.1 13 = .ok (.iastore, 1) := by decide +kernel
theorem d_148_14 : decode (mth 148).2.1 14 = .ok (.iconst 0, 1) := by decide +kernel
theorem d_148_15 : decode (mth 148).2.1 15 = .ok (.istore 4, 2) := by decide +kernel
theorem d_148_17 : decode (mth 148).2.1 17 = .ok (.iload 4, 2) := by decide +kernel
theorem d_148_19 : decode (mth 148).2.1 19 = .ok (.bipush 40, 2) := by decide +kernel
theorem d_148_21 : decode (mth 148).2.1 21 = .ok (.if_icmp .ge 19, 3) := by decide +kernel
theorem d_148_24 : decode (mth 148).2.1 24 = .ok (.aload_n 0, 1) := by decide +kernel
theorem d_148_25 : decode (mth 148).2.1 25 = .ok (.getfield 20, 3) := by decide +kernel
theorem d_148_28 : decode (mth 148).2.1 28 = .ok (.iload_n 1, 1) := by decide +kernel
theorem d_148_29 : decode (mth 148).2.1 29 = .ok (.aaload, 1) := by decide +kernel
theorem d_148_30 : decode (mth 148).2.1 30 = .ok (.iload 4, 2) := by decide +kernel
theorem d_148_32 : decode (mth 148).2.1 32 = .ok (.iconst 0, 1) := by decide +kernel
theorem d_148_33 : decode (mth 148).2.1 33 = .ok (.iastore, 1) := by decide +kernel
theorem d_148_34 : decode (mth 148).2.1 34 = .ok (.iinc 4 1, 3) := by decide +kernel
theorem d_148_37 : decode (mth 148).2.1 37 = .ok (.goto (-20), 3) := by decide +kernel
theorem d_148_40 : decode (mth 148).2.1 40 = .ok (.iconst 1, 1) := by decide +kernel
theorem d_148_41 : decode (mth 148).2.1 41 = .ok (.ireturn, 1) := by decide +kernel
/-! 150 PlayedTruth$Host.isItem(II)Z -/
theorem d_150_0 : decode (mth 150).2.1 0 = .ok (.iload_n 2, 1) := by decide +kernel
theorem d_150_1 : decode (mth 150).2.1 1 = .ok (.ifCond .lt 17, 3) := by decide +kernel
theorem d_150_4 : decode (mth 150).2.1 4 = .ok (.iload_n 2, 1) := by decide +kernel
theorem d_150_5 : decode (mth 150).2.1 5 = .ok (.aload_n 0, 1) := by decide +kernel
theorem d_150_6 : decode (mth 150).2.1 6 = .ok (.getfield 15, 3) := by decide +kernel
theorem d_150_9 : decode (mth 150).2.1 9 = .ok (.iload_n 1, 1) := by decide +kernel
theorem d_150_10 : decode (mth 150).2.1 10 = .ok (.iaload, 1) := by decide +kernel
theorem d_150_11 : decode (mth 150).2.1 11 = .ok (.if_icmp .ge 7, 3) := by decide +kernel
theorem d_150_14 : decode (mth 150).2.1 14 = .ok (.iconst 1, 1) := by decide +kernel
theorem d_150_15 : decode (mth 150).2.1 15 = .ok (.goto 4, 3) := by decide +kernel
theorem d_150_18 : decode (mth 150).2.1 18 = .ok (.iconst 0, 1) := by decide +kernel
theorem d_150_19 : decode (mth 150).2.1 19 = .ok (.ireturn, 1) := by decide +kernel
/-! 151 PlayedTruth$Host.narrowed(II)I -/
theorem d_151_0 : decode (mth 151).2.1 0 = .ok (.iload_n 0, 1) := by decide +kernel
theorem d_151_1 : decode (mth 151).2.1 1 = .ok (.tableswitch 51 0 4 #[35, 38, 51, 51, 41], 35) := by decide +kernel
theorem d_151_36 : decode (mth 151).2.1 36 = .ok (.iload_n 1, 1) := by decide +kernel
theorem d_151_37 : decode (mth 151).2.1 37 = .ok (.i2b, 1) := by decide +kernel
theorem d_151_38 : decode (mth 151).2.1 38 = .ok (.ireturn, 1) := by decide +kernel
theorem d_151_39 : decode (mth 151).2.1 39 = .ok (.iload_n 1, 1) := by decide +kernel
theorem d_151_40 : decode (mth 151).2.1 40 = .ok (.i2s, 1) := by decide +kernel
theorem d_151_41 : decode (mth 151).2.1 41 = .ok (.ireturn, 1) := by decide +kernel
theorem d_151_42 : decode (mth 151).2.1 42 = .ok (.iload_n 1, 1) := by decide +kernel
theorem d_151_43 : decode (mth 151).2.1 43 = .ok (.ifCond .eq 7, 3) := by decide +kernel
theorem d_151_46 : decode (mth 151).2.1 46 = .ok (.iconst 1, 1) := by decide +kernel
theorem d_151_47 : decode (mth 151).2.1 47 = .ok (.goto 4, 3) := by decide +kernel
theorem d_151_50 : decode (mth 151).2.1 50 = .ok (.iconst 0, 1) := by decide +kernel
theorem d_151_51 : decode (mth 151).2.1 51 = .ok (.ireturn, 1) := by decide +kernel
theorem d_151_52 : decode (mth 151).2.1 52 = .ok (.iload_n 1, 1) := by decide +kernel
theorem d_151_53 : decode (mth 151).2.1 53 = .ok (.ireturn, 1) := by decide +kernel
/-! 153 PlayedTruth$Host.refusalOf(II)I -/
theorem d_153_0 : decode (mth 153).2.1 0 = .ok (.aload_n 0, 1) := by decide +kernel
theorem d_153_1 : decode (mth 153).2.1 1 = .ok (.getfield 11, 3) := by decide +kernel
theorem d_153_4 : decode (mth 153).2.1 4 = .ok (.iload_n 1, 1) := by decide +kernel
theorem d_153_5 : decode (mth 153).2.1 5 = .ok (.iaload, 1) := by decide +kernel
theorem d_153_6 : decode (mth 153).2.1 6 = .ok (.iconst (-1), 1) := by decide +kernel
theorem d_153_7 : decode (mth 153).2.1 7 = .ok (.if_icmp .ne 6, 3) := by decide +kernel
theorem d_153_10 : decode (mth 153).2.1 10 = .ok (.bipush (-11), 2) := by decide +kernel
theorem d_153_12 : decode (mth 153).2.1 12 = .ok (.ireturn, 1) := by decide +kernel
theorem d_153_13 : decode (mth 153).2.1 13 = .ok (.aload_n 0, 1) := by decide +kernel
theorem d_153_14 : decode (mth 153).2.1 14 = .ok (.getfield 11, 3) := by decide +kernel
theorem d_153_17 : decode (mth 153).2.1 17 = .ok (.iload_n 1, 1) := by decide +kernel
theorem d_153_18 : decode (mth 153).2.1 18 = .ok (.iaload, 1) := by decide +kernel
theorem d_153_19 : decode (mth 153).2.1 19 = .ok (.iload_n 2, 1) := by decide +kernel
theorem d_153_20 : decode (mth 153).2.1 20 = .ok (.if_icmp .ne 7, 3) := by decide +kernel
theorem d_153_23 : decode (mth 153).2.1 23 = .ok (.iconst 0, 1) := by decide +kernel
theorem d_153_24 : decode (mth 153).2.1 24 = .ok (.goto 5, 3) := by decide +kernel
theorem d_153_27 : decode (mth 153).2.1 27 = .ok (.bipush (-13), 2) := by decide +kernel
theorem d_153_29 : decode (mth 153).2.1 29 = .ok (.ireturn, 1) := by decide +kernel
/-! 158 PlayedTruth$Host.isShelf(I)Z -/
theorem d_158_0 : decode (mth 158).2.1 0 = .ok (.iload_n 0, 1) := by decide +kernel
theorem d_158_1 : decode (mth 158).2.1 1 = .ok (.ifCond .lt 12, 3) := by decide +kernel
theorem d_158_4 : decode (mth 158).2.1 4 = .ok (.iload_n 0, 1) := by decide +kernel
theorem d_158_5 : decode (mth 158).2.1 5 = .ok (.iconst 4, 1) := by decide +kernel
theorem d_158_6 : decode (mth 158).2.1 6 = .ok (.if_icmp .ge 7, 3) := by decide +kernel
theorem d_158_9 : decode (mth 158).2.1 9 = .ok (.iconst 1, 1) := by decide +kernel
theorem d_158_10 : decode (mth 158).2.1 10 = .ok (.goto 4, 3) := by decide +kernel
theorem d_158_13 : decode (mth 158).2.1 13 = .ok (.iconst 0, 1) := by decide +kernel
theorem d_158_14 : decode (mth 158).2.1 14 = .ok (.ireturn, 1) := by decide +kernel
/-! 159 PlayedTruth$Host.hold(IIII)I -/
theorem d_159_0 : decode (mth 159).2.1 0 = .ok (.aload_n 0, 1) := by decide +kernel
theorem d_159_1 : decode (mth 159).2.1 1 = .ok (.getfield 23, 3) := by decide +kernel
theorem d_159_4 : decode (mth 159).2.1 4 = .ok (.iload_n 1, 1) := by decide +kernel
theorem d_159_5 : decode (mth 159).2.1 5 = .ok (.iload_n 2, 1) := by decide +kernel
theorem d_159_6 : decode (mth 159).2.1 6 = .ok (.iastore, 1) := by decide +kernel
theorem d_159_7 : decode (mth 159).2.1 7 = .ok (.aload_n 0, 1) := by decide +kernel
theorem d_159_8 : decode (mth 159).2.1 8 = .ok (.getfield 26, 3) := by decide +kernel
theorem d_159_11 : decode (mth 159).2.1 11 = .ok (.iload_n 1, 1) := by decide +kernel
theorem d_159_12 : decode (mth 159).2.1 12 = .ok (.iload_n 3, 1) := by decide +kernel
theorem d_159_13 : decode (mth 159).2.1 13 = .ok (.iastore, 1) := by decide +kernel
theorem d_159_14 : decode (mth 159).2.1 14 = .ok (.aload_n 0, 1) := by decide +kernel
theorem d_159_15 : decode (mth 159).2.1 15 = .ok (.getfield 29, 3) := by decide +kernel
theorem d_159_18 : decode (mth 159).2.1 18 = .ok (.iload_n 1, 1) := by decide +kernel
theorem d_159_19 : decode (mth 159).2.1 19 = .ok (.iload 4, 2) := by decide +kernel
theorem d_159_21 : decode (mth 159).2.1 21 = .ok (.iastore, 1) := by decide +kernel
theorem d_159_22 : decode (mth 159).2.1 22 = .ok (.iconst 1, 1) := by decide +kernel
theorem d_159_23 : decode (mth 159).2.1 23 = .ok (.ireturn, 1) := by decide +kernel
/-! 160 PlayedTruth$Host.holdRow(II)I -/
theorem d_160_0 : decode (mth 160).2.1 0 = .ok (.aload_n 0, 1) := by decide +kernel
theorem d_160_1 : decode (mth 160).2.1 1 = .ok (.getfield 11, 3) := by decide +kernel
theorem d_160_4 : decode (mth 160).2.1 4 = .ok (.iload_n 2, 1) := by decide +kernel
theorem d_160_5 : decode (mth 160).2.1 5 = .ok (.iaload, 1) := by decide +kernel
theorem d_160_6 : decode (mth 160).2.1 6 = .ok (.iconst (-1), 1) := by decide +kernel
theorem d_160_7 : decode (mth 160).2.1 7 = .ok (.if_icmp .ne 7, 3) := by decide +kernel
theorem d_160_10 : decode (mth 160).2.1 10 = .ok (.iconst 0, 1) := by decide +kernel
theorem d_160_11 : decode (mth 160).2.1 11 = .ok (.goto 4, 3) := by decide +kernel
theorem d_160_14 : decode (mth 160).2.1 14 = .ok (.iconst 2, 1) := by decide +kernel
theorem d_160_15 : decode (mth 160).2.1 15 = .ok (.istore_n 3, 1) := by decide +kernel
theorem d_160_16 : decode (mth 160).2.1 16 = .ok (.aload_n 0, 1) := by decide +kernel
theorem d_160_17 : decode (mth 160).2.1 17 = .ok (.iload_n 1, 1) := by decide +kernel
theorem d_160_18 : decode (mth 160).2.1 18 = .ok (.iload_n 3, 1) := by decide +kernel
theorem d_160_19 : decode (mth 160).2.1 19 = .ok (.aload_n 0, 1) := by decide +kernel
theorem d_160_20 : decode (mth 160).2.1 20 = .ok (.getfield 11, 3) := by decide +kernel
theorem d_160_23 : decode (mth 160).2.1 23 = .ok (.iload_n 2, 1) := by decide +kernel
theorem d_160_24 : decode (mth 160).2.1 24 = .ok (.iaload, 1) := by decide +kernel
theorem d_160_25 : decode (mth 160).2.1 25 = .ok (.aload_n 0, 1) := by decide +kernel
theorem d_160_26 : decode (mth 160).2.1 26 = .ok (.getfield 15, 3) := by decide +kernel
theorem d_160_29 : decode (mth 160).2.1 29 = .ok (.iload_n 2, 1) := by decide +kernel
theorem d_160_30 : decode (mth 160).2.1 30 = .ok (.iaload, 1) := by decide +kernel
theorem d_160_31 : decode (mth 160).2.1 31 = .ok (.invokevirtual 32, 3) := by decide +kernel
theorem d_160_34 : decode (mth 160).2.1 34 = .ok (.ireturn, 1) := by decide +kernel
/-! 164 PlayedTruth$Acting.forgetBodies()V -/
theorem d_164_0 : decode (mth 164).2.1 0 = .ok (.aload_n 0, 1) := by decide +kernel
theorem d_164_1 : decode (mth 164).2.1 1 = .ok (.iconst 0, 1) := by decide +kernel
theorem d_164_2 : decode (mth 164).2.1 2 = .ok (.putfield 15, 3) := by decide +kernel
theorem d_164_5 : decode (mth 164).2.1 5 = .ok (.return_, 1) := by decide +kernel
/-! 165 PlayedTruth$Acting.perform(IIIII)I -/
theorem d_165_0 : decode (mth 165).2.1 0 = .ok (.aload_n 0, 1) := by decide +kernel
theorem d_165_1 : decode (mth 165).2.1 1 = .ok (.iconst 0, 1) := by decide +kernel
theorem d_165_2 : decode (mth 165).2.1 2 = .ok (.putfield 19, 3) := by decide +kernel
theorem d_165_5 : decode (mth 165).2.1 5 = .ok (.aload_n 0, 1) := by decide +kernel
theorem d_165_6 : decode (mth 165).2.1 6 = .ok (.iload_n 1, 1) := by decide +kernel
theorem d_165_7 : decode (mth 165).2.1 7 = .ok (.putfield 23, 3) := by decide +kernel
theorem d_165_10 : decode (mth 165).2.1 10 = .ok (.aload_n 0, 1) := by decide +kernel
theorem d_165_11 : decode (mth 165).2.1 11 = .ok (.iload_n 2, 1) := by decide +kernel
theorem d_165_12 : decode (mth 165).2.1 12 = .ok (.putfield 26, 3) := by decide +kernel
theorem d_165_15 : decode (mth 165).2.1 15 = .ok (.aload_n 0, 1) := by decide +kernel
theorem d_165_16 : decode (mth 165).2.1 16 = .ok (.iload_n 3, 1) := by decide +kernel
theorem d_165_17 : decode (mth 165).2.1 17 = .ok (.putfield 29, 3) := by decide +kernel
theorem d_165_20 : decode (mth 165).2.1 20 = .ok (.aload_n 0, 1) := by decide +kernel
theorem d_165_21 : decode (mth 165).2.1 21 = .ok (.iload 4, 2) := by decide +kernel
theorem d_165_23 : decode (mth 165).2.1 23 = .ok (.iload 5, 2) := by decide +kernel
theorem d_165_25 : decode (mth 165).2.1 25 = .ok (.iconst 0, 1) := by decide +kernel
theorem d_165_26 : decode (mth 165).2.1 26 = .ok (.invokevirtual 32, 3) := by decide +kernel
theorem d_165_29 : decode (mth 165).2.1 29 = .ok (.istore 6, 2) := by decide +kernel
theorem d_165_31 : decode (mth 165).2.1 31 = .ok (.aload_n 0, 1) := by decide +kernel
theorem d_165_32 : decode (mth 165).2.1 32 = .ok (.getfield 19, 3) := by decide +kernel
theorem d_165_35 : decode (mth 165).2.1 35 = .ok (.ifCond .eq 8, 3) := by decide +kernel
theorem d_165_38 : decode (mth 165).2.1 38 = .ok (.bipush (-15), 2) := by decide +kernel
theorem d_165_40 : decode (mth 165).2.1 40 = .ok (.goto 5, 3) := by decide +kernel
theorem d_165_43 : decode (mth 165).2.1 43 = .ok (.iload 6, 2) := by decide +kernel
theorem d_165_45 : decode (mth 165).2.1 45 = .ok (.ireturn, 1) := by decide +kernel
/-! 166 PlayedTruth$Acting.does(III)I -/
theorem d_166_0 : decode (mth 166).2.1 0 = .ok (.aload_n 0, 1) := by decide +kernel
theorem d_166_1 : decode (mth 166).2.1 1 = .ok (.getstatic 36, 3) := by decide +kernel
theorem d_166_4 : decode (mth 166).2.1 4 = .ok (.aload_n 0, 1) := by decide +kernel
theorem d_166_5 : decode (mth 166).2.1 5 = .ok (.getfield 23, 3) := by decide +kernel
theorem d_166_8 : decode (mth 166).2.1 8 = .ok (.iconst 4, 1) := by decide +kernel
theorem d_166_9 : decode (mth 166).2.1 9 = .ok (.imul, 1) := by decide +kernel
theorem d_166_10 : decode (mth 166).2.1 10 = .ok (.iload_n 1, 1) := by decide +kernel
theorem d_166_11 : decode (mth 166).2.1 11 = .ok (.iadd, 1) := by decide +kernel
theorem d_166_12 : decode (mth 166).2.1 12 = .ok (.iaload, 1) := by decide +kernel
theorem d_166_13 : decode (mth 166).2.1 13 = .ok (.iload_n 2, 1) := by decide +kernel
theorem d_166_14 : decode (mth 166).2.1 14 = .ok (.iload_n 3, 1) := by decide +kernel
theorem d_166_15 : decode (mth 166).2.1 15 = .ok (.iconst 1, 1) := by decide +kernel
theorem d_166_16 : decode (mth 166).2.1 16 = .ok (.iadd, 1) := by decide +kernel
theorem d_166_17 : decode (mth 166).2.1 17 = .ok (.invokevirtual 39, 3) := by decide +kernel
theorem d_166_20 : decode (mth 166).2.1 20 = .ok (.ireturn, 1) := by decide +kernel
/-! 167 PlayedTruth$Acting.run(III)I -/
theorem d_167_0 : decode (mth 167).2.1 0 = .ok (.aload_n 0, 1) := by decide +kernel
theorem d_167_1 : decode (mth 167).2.1 1 = .ok (.getfield 19, 3) := by decide +kernel
theorem d_167_4 : decode (mth 167).2.1 4 = .ok (.ifCond .ne 9, 3) := by decide +kernel
theorem d_167_7 : decode (mth 167).2.1 7 = .ok (.iload_n 3, 1) := by decide +kernel
theorem d_167_8 : decode (mth 167).2.1 8 = .ok (.bipush 20, 2) := by decide +kernel
theorem d_167_10 : decode (mth 167).2.1 10 = .ok (.if_icmp .le 5, 3) := by decide +kernel
theorem d_167_13 : decode (mth 167).2.1 13 = .ok (.iconst 0, 1) := by decide +kernel
theorem d_167_14 : decode (mth 167).2.1 14 = .ok (.ireturn, 1) := by decide +kernel
theorem d_167_15 : decode (mth 167).2.1 15 = .ok (.aload_n 0, 1) := by decide +kernel
theorem d_167_16 : decode (mth 167).2.1 16 = .ok (.getfield 15, 3) := by decide +kernel
theorem d_167_19 : decode (mth 167).2.1 19 = .ok (.bipush 30, 2) := by decide +kernel
theorem d_167_21 : decode (mth 167).2.1 21 = .ok (.if_icmp .ge 20, 3) := by decide +kernel
theorem d_167_24 : decode (mth 167).2.1 24 = .ok (.aload_n 0, 1) := by decide +kernel
theorem d_167_25 : decode (mth 167).2.1 25 = .ok (.getfield 11, 3) := by decide +kernel
theorem d_167_28 : decode (mth 167).2.1 28 = .ok (.aload_n 0, 1) := by decide +kernel
theorem d_167_29 : decode (mth 167).2.1 29 = .ok (.dup, 1) := by decide +kernel
theorem d_167_30 : decode (mth 167).2.1 30 = .ok (.getfield 15, 3) := by decide +kernel
theorem d_167_33 : decode (mth 167).2.1 33 = .ok (.dup_x1, 1) := by decide +kernel
theorem d_167_34 : decode (mth 167).2.1 34 = .ok (.iconst 1, 1) := by decide +kernel
theorem d_167_35 : decode (mth 167).2.1 35 = .ok (.iadd, 1) := by decide +kernel
theorem d_167_36 : decode (mth 167).2.1 36 = .ok (.putfield 15, 3) := by decide +kernel
theorem d_167_39 : decode (mth 167).2.1 39 = .ok (.iload_n 1, 1) := by decide +kernel
theorem d_167_40 : decode (mth 167).2.1 40 = .ok (.iastore, 1) := by decide +kernel
theorem d_167_41 : decode (mth 167).2.1 41 = .ok (.iload_n 3, 1) := by decide +kernel
theorem d_167_42 : decode (mth 167).2.1 42 = .ok (.iconst 1, 1) := by decide +kernel
theorem d_167_43 : decode (mth 167).2.1 43 = .ok (.iadd, 1) := by decide +kernel
theorem d_167_44 : decode (mth 167).2.1 44 = .ok (.istore 4, 2) := by decide +kernel
theorem d_167_46 : decode (mth 167).2.1 46 = .ok (.iload_n 1, 1) := by decide +kernel
theorem d_167_47 : decode (mth 167).2.1 47 = .ok (.lookupswitch 263 #[(10, 97), (11, 107), (12, 121), (13, 138), (20, 156), (30, 169), (40, 181), (50, 194), (51, 207), (60, 229), (61, 241)], 97) := by decide +kernel
theorem d_167_144 : decode (mth 167).2.1 144 = .ok (.iload_n 2, 1) := by decide +kernel
theorem d_167_145 : decode (mth 167).2.1 145 = .ok (.bipush 6, 2) := by decide +kernel
theorem d_167_147 : decode (mth 167).2.1 147 = .ok (.imul, 1) := by decide +kernel
theorem d_167_148 : decode (mth 167).2.1 148 = .ok (.aload_n 0, 1) := by decide +kernel
theorem d_167_149 : decode (mth 167).2.1 149 = .ok (.getfield 26, 3) := by decide +kernel
theorem d_167_152 : decode (mth 167).2.1 152 = .ok (.iadd, 1) := by decide +kernel
theorem d_167_153 : decode (mth 167).2.1 153 = .ok (.ireturn, 1) := by decide +kernel
theorem d_167_154 : decode (mth 167).2.1 154 = .ok (.aload_n 0, 1) := by decide +kernel
theorem d_167_155 : decode (mth 167).2.1 155 = .ok (.iconst 0, 1) := by decide +kernel
theorem d_167_156 : decode (mth 167).2.1 156 = .ok (.iload_n 2, 1) := by decide +kernel
theorem d_167_157 : decode (mth 167).2.1 157 = .ok (.iload 4, 2) := by decide +kernel
theorem d_167_159 : decode (mth 167).2.1 159 = .ok (.invokevirtual 32, 3) := by decide +kernel
theorem d_167_162 : decode (mth 167).2.1 162 = .ok (.aload_n 0, 1) := by decide +kernel
theorem d_167_163 : decode (mth 167).2.1 163 = .ok (.getfield 29, 3) := by decide +kernel
theorem d_167_166 : decode (mth 167).2.1 166 = .ok (.isub, 1) := by decide +kernel
theorem d_167_167 : decode (mth 167).2.1 167 = .ok (.ireturn, 1) := by decide +kernel
theorem d_167_168 : decode (mth 167).2.1 168 = .ok (.aload_n 0, 1) := by decide +kernel
theorem d_167_169 : decode (mth 167).2.1 169 = .ok (.iload_n 2, 1) := by decide +kernel
theorem d_167_170 : decode (mth 167).2.1 170 = .ok (.aload_n 0, 1) := by decide +kernel
theorem d_167_171 : decode (mth 167).2.1 171 = .ok (.getfield 29, 3) := by decide +kernel
theorem d_167_174 : decode (mth 167).2.1 174 = .ok (.aload_n 0, 1) := by decide +kernel
theorem d_167_175 : decode (mth 167).2.1 175 = .ok (.getfield 26, 3) := by decide +kernel
theorem d_167_178 : decode (mth 167).2.1 178 = .ok (.iadd, 1) := by decide +kernel
theorem d_167_179 : decode (mth 167).2.1 179 = .ok (.iconst 3, 1) := by decide +kernel
theorem d_167_180 : decode (mth 167).2.1 180 = .ok (.isub, 1) := by decide +kernel
theorem d_167_181 : decode (mth 167).2.1 181 = .ok (.invokevirtual 42, 3) := by decide +kernel
theorem d_167_184 : decode (mth 167).2.1 184 = .ok (.ireturn, 1) := by decide +kernel
theorem d_167_185 : decode (mth 167).2.1 185 = .ok (.aload_n 0, 1) := by decide +kernel
theorem d_167_186 : decode (mth 167).2.1 186 = .ok (.iconst 1, 1) := by decide +kernel
theorem d_167_187 : decode (mth 167).2.1 187 = .ok (.iload_n 2, 1) := by decide +kernel
theorem d_167_188 : decode (mth 167).2.1 188 = .ok (.iload 4, 2) := by decide +kernel
theorem d_167_190 : decode (mth 167).2.1 190 = .ok (.invokevirtual 32, 3) := by decide +kernel
theorem d_167_193 : decode (mth 167).2.1 193 = .ok (.aload_n 0, 1) := by decide +kernel
theorem d_167_194 : decode (mth 167).2.1 194 = .ok (.iconst 2, 1) := by decide +kernel
theorem d_167_195 : decode (mth 167).2.1 195 = .ok (.iload_n 2, 1) := by decide +kernel
theorem d_167_196 : decode (mth 167).2.1 196 = .ok (.iload 4, 2) := by decide +kernel
theorem d_167_198 : decode (mth 167).2.1 198 = .ok (.invokevirtual 32, 3) := by decide +kernel
theorem d_167_201 : decode (mth 167).2.1 201 = .ok (.iadd, 1) := by decide +kernel
theorem d_167_202 : decode (mth 167).2.1 202 = .ok (.ireturn, 1) := by decide +kernel
theorem d_167_203 : decode (mth 167).2.1 203 = .ok (.aload_n 0, 1) := by decide +kernel
theorem d_167_204 : decode (mth 167).2.1 204 = .ok (.bipush 10, 2) := by decide +kernel
theorem d_167_206 : decode (mth 167).2.1 206 = .ok (.iload_n 2, 1) := by decide +kernel
theorem d_167_207 : decode (mth 167).2.1 207 = .ok (.iload 4, 2) := by decide +kernel
theorem d_167_209 : decode (mth 167).2.1 209 = .ok (.invokevirtual 39, 3) := by decide +kernel
theorem d_167_212 : decode (mth 167).2.1 212 = .ok (.bipush 10, 2) := by decide +kernel
theorem d_167_214 : decode (mth 167).2.1 214 = .ok (.ixor, 1) := by decide +kernel
theorem d_167_215 : decode (mth 167).2.1 215 = .ok (.ireturn, 1) := by decide +kernel
theorem d_167_216 : decode (mth 167).2.1 216 = .ok (.aload_n 0, 1) := by decide +kernel
theorem d_167_217 : decode (mth 167).2.1 217 = .ok (.bipush 11, 2) := by decide +kernel
theorem d_167_219 : decode (mth 167).2.1 219 = .ok (.iload_n 2, 1) := by decide +kernel
theorem d_167_220 : decode (mth 167).2.1 220 = .ok (.iload 4, 2) := by decide +kernel
theorem d_167_222 : decode (mth 167).2.1 222 = .ok (.invokevirtual 39, 3) := by decide +kernel
theorem d_167_225 : decode (mth 167).2.1 225 = .ok (.iconst 2, 1) := by decide +kernel
theorem d_167_226 : decode (mth 167).2.1 226 = .ok (.imul, 1) := by decide +kernel
theorem d_167_227 : decode (mth 167).2.1 227 = .ok (.ireturn, 1) := by decide +kernel
theorem d_167_228 : decode (mth 167).2.1 228 = .ok (.aload_n 0, 1) := by decide +kernel
theorem d_167_229 : decode (mth 167).2.1 229 = .ok (.bipush 12, 2) := by decide +kernel
theorem d_167_231 : decode (mth 167).2.1 231 = .ok (.iload_n 2, 1) := by decide +kernel
theorem d_167_232 : decode (mth 167).2.1 232 = .ok (.iload 4, 2) := by decide +kernel
theorem d_167_234 : decode (mth 167).2.1 234 = .ok (.invokevirtual 39, 3) := by decide +kernel
theorem d_167_237 : decode (mth 167).2.1 237 = .ok (.bipush 6, 2) := by decide +kernel
theorem d_167_239 : decode (mth 167).2.1 239 = .ok (.iadd, 1) := by decide +kernel
theorem d_167_240 : decode (mth 167).2.1 240 = .ok (.ireturn, 1) := by decide +kernel
theorem d_167_241 : decode (mth 167).2.1 241 = .ok (.aload_n 0, 1) := by decide +kernel
theorem d_167_242 : decode (mth 167).2.1 242 = .ok (.bipush 10, 2) := by decide +kernel
theorem d_167_244 : decode (mth 167).2.1 244 = .ok (.iload_n 2, 1) := by decide +kernel
theorem d_167_245 : decode (mth 167).2.1 245 = .ok (.bipush 7, 2) := by decide +kernel
theorem d_167_247 : decode (mth 167).2.1 247 = .ok (.iadd, 1) := by decide +kernel
theorem d_167_248 : decode (mth 167).2.1 248 = .ok (.iload 4, 2) := by decide +kernel
theorem d_167_250 : decode (mth 167).2.1 250 = .ok (.invokevirtual 39, 3) := by decide +kernel
theorem d_167_253 : decode (mth 167).2.1 253 = .ok (.ireturn, 1) := by decide +kernel
theorem d_167_254 : decode (mth 167).2.1 254 = .ok (.aload_n 0, 1) := by decide +kernel
theorem d_167_255 : decode (mth 167).2.1 255 = .ok (.bipush 13, 2) := by decide +kernel
theorem d_167_257 : decode (mth 167).2.1 257 = .ok (.iload_n 2, 1) := by decide +kernel
theorem d_167_258 : decode (mth 167).2.1 258 = .ok (.iload 4, 2) := by decide +kernel
theorem d_167_260 : decode (mth 167).2.1 260 = .ok (.invokevirtual 39, 3) := by decide +kernel
theorem d_167_263 : decode (mth 167).2.1 263 = .ok (.aload_n 0, 1) := by decide +kernel
theorem d_167_264 : decode (mth 167).2.1 264 = .ok (.iconst 1, 1) := by decide +kernel
theorem d_167_265 : decode (mth 167).2.1 265 = .ok (.aload_n 0, 1) := by decide +kernel
theorem d_167_266 : decode (mth 167).2.1 266 = .ok (.getfield 29, 3) := by decide +kernel
theorem d_167_269 : decode (mth 167).2.1 269 = .ok (.iload 4, 2) := by decide +kernel
theorem d_167_271 : decode (mth 167).2.1 271 = .ok (.invokevirtual 32, 3) := by decide +kernel
theorem d_167_274 : decode (mth 167).2.1 274 = .ok (.isub, 1) := by decide +kernel
theorem d_167_275 : decode (mth 167).2.1 275 = .ok (.ireturn, 1) := by decide +kernel
theorem d_167_276 : decode (mth 167).2.1 276 = .ok (.iconst 0, 1) := by decide +kernel
theorem d_167_277 : decode (mth 167).2.1 277 = .ok (.aload_n 0, 1) := by decide +kernel
theorem d_167_278 : decode (mth 167).2.1 278 = .ok (.bipush 11, 2) := by decide +kernel
theorem d_167_280 : decode (mth 167).2.1 280 = .ok (.iload_n 2, 1) := by decide +kernel
theorem d_167_281 : decode (mth 167).2.1 281 = .ok (.iload 4, 2) := by decide +kernel
theorem d_167_283 : decode (mth 167).2.1 283 = .ok (.invokevirtual 39, 3) := by decide +kernel
theorem d_167_286 : decode (mth 167).2.1 286 = .ok (.isub, 1) := by decide +kernel
theorem d_167_287 : decode (mth 167).2.1 287 = .ok (.ireturn, 1) := by decide +kernel
theorem d_167_288 : decode (mth 167).2.1 288 = .ok (.aload_n 0, 1) := by decide +kernel
theorem d_167_289 : decode (mth 167).2.1 289 = .ok (.bipush 40, 2) := by decide +kernel
theorem d_167_291 : decode (mth 167).2.1 291 = .ok (.iload_n 2, 1) := by decide +kernel
theorem d_167_292 : decode (mth 167).2.1 292 = .ok (.iload 4, 2) := by decide +kernel
theorem d_167_294 : decode (mth 167).2.1 294 = .ok (.invokevirtual 39, 3) := by decide +kernel
theorem d_167_297 : decode (mth 167).2.1 297 = .ok (.aload_n 0, 1) := by decide +kernel
theorem d_167_298 : decode (mth 167).2.1 298 = .ok (.iconst 0, 1) := by decide +kernel
theorem d_167_299 : decode (mth 167).2.1 299 = .ok (.aload_n 0, 1) := by decide +kernel
theorem d_167_300 : decode (mth 167).2.1 300 = .ok (.getfield 26, 3) := by decide +kernel
theorem d_167_303 : decode (mth 167).2.1 303 = .ok (.iload 4, 2) := by decide +kernel
theorem d_167_305 : decode (mth 167).2.1 305 = .ok (.invokevirtual 32, 3) := by decide +kernel
theorem d_167_308 : decode (mth 167).2.1 308 = .ok (.ixor, 1) := by decide +kernel
theorem d_167_309 : decode (mth 167).2.1 309 = .ok (.ireturn, 1) := by decide +kernel
theorem d_167_310 : decode (mth 167).2.1 310 = .ok (.iconst 0, 1) := by decide +kernel
theorem d_167_311 : decode (mth 167).2.1 311 = .ok (.ireturn, 1) := by decide +kernel
/-! 168 PlayedTruth$Acting.part(II)I -/
theorem d_168_0 : decode (mth 168).2.1 0 = .ok (.iload_n 2, 1) := by decide +kernel
theorem d_168_1 : decode (mth 168).2.1 1 = .ok (.ifCond .ne 10, 3) := by decide +kernel
theorem d_168_4 : decode (mth 168).2.1 4 = .ok (.aload_n 0, 1) := by decide +kernel
theorem d_168_5 : decode (mth 168).2.1 5 = .ok (.iconst 1, 1) := by decide +kernel
theorem d_168_6 : decode (mth 168).2.1 6 = .ok (.putfield 19, 3) := by decide +kernel
theorem d_168_9 : decode (mth 168).2.1 9 = .ok (.iconst 0, 1) := by decide +kernel
theorem d_168_10 : decode (mth 168).2.1 10 = .ok (.ireturn, 1) := by decide +kernel
theorem d_168_11 : decode (mth 168).2.1 11 = .ok (.iload_n 1, 1) := by decide +kernel
theorem d_168_12 : decode (mth 168).2.1 12 = .ok (.iload_n 2, 1) := by decide +kernel
theorem d_168_13 : decode (mth 168).2.1 13 = .ok (.idiv, 1) := by decide +kernel
theorem d_168_14 : decode (mth 168).2.1 14 = .ok (.ireturn, 1) := by decide +kernel
