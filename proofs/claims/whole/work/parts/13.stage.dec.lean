/-! 16 PlayedTruth$Stage.learns(LPlayedTruth$Moment;I)I -/
theorem d_16_0 : decode (mth 16).2.1 0 = .ok (.aload_n 0, 1) := by decide +kernel
theorem d_16_1 : decode (mth 16).2.1 1 = .ok (.getfield 9, 3) := by decide +kernel
theorem d_16_4 : decode (mth 16).2.1 4 = .ok (.iload_n 2, 1) := by decide +kernel
theorem d_16_5 : decode (mth 16).2.1 5 = .ok (.iaload, 1) := by decide +kernel
theorem d_16_6 : decode (mth 16).2.1 6 = .ok (.aload_n 0, 1) := by decide +kernel
theorem d_16_7 : decode (mth 16).2.1 7 = .ok (.aload_n 1, 1) := by decide +kernel
theorem d_16_8 : decode (mth 16).2.1 8 = .ok (.getfield 54, 3) := by decide +kernel
theorem d_16_11 : decode (mth 16).2.1 11 = .ok (.invokevirtual 63, 3) := by decide +kernel
theorem d_16_14 : decode (mth 16).2.1 14 = .ok (.aload_n 1, 1) := by decide +kernel
theorem d_16_15 : decode (mth 16).2.1 15 = .ok (.getfield 67, 3) := by decide +kernel
theorem d_16_18 : decode (mth 16).2.1 18 = .ok (.iload_n 2, 1) := by decide +kernel
theorem d_16_19 : decode (mth 16).2.1 19 = .ok (.iaload, 1) := by decide +kernel
theorem d_16_20 : decode (mth 16).2.1 20 = .ok (.aload_n 1, 1) := by decide +kernel
theorem d_16_21 : decode (mth 16).2.1 21 = .ok (.getfield 54, 3) := by decide +kernel
theorem d_16_24 : decode (mth 16).2.1 24 = .ok (.invokestatic 70, 3) := by decide +kernel
theorem d_16_27 : decode (mth 16).2.1 27 = .ok (.istore_n 3, 1) := by decide +kernel
theorem d_16_28 : decode (mth 16).2.1 28 = .ok (.iconst 0, 1) := by decide +kernel
theorem d_16_29 : decode (mth 16).2.1 29 = .ok (.iload_n 3, 1) := by decide +kernel
theorem d_16_30 : decode (mth 16).2.1 30 = .ok (.iconst 5, 1) := by decide +kernel
theorem d_16_31 : decode (mth 16).2.1 31 = .ok (.aload_n 0, 1) := by decide +kernel
theorem d_16_32 : decode (mth 16).2.1 32 = .ok (.aload_n 1, 1) := by decide +kernel
theorem d_16_33 : decode (mth 16).2.1 33 = .ok (.iload_n 2, 1) := by decide +kernel
theorem d_16_34 : decode (mth 16).2.1 34 = .ok (.invokevirtual 76, 3) := by decide +kernel
theorem d_16_37 : decode (mth 16).2.1 37 = .ok (.imul, 1) := by decide +kernel
theorem d_16_38 : decode (mth 16).2.1 38 = .ok (.iadd, 1) := by decide +kernel
theorem d_16_39 : decode (mth 16).2.1 39 = .ok (.aload_n 0, 1) := by decide +kernel
theorem d_16_40 : decode (mth 16).2.1 40 = .ok (.getfield 24, 3) := by decide +kernel
theorem d_16_43 : decode (mth 16).2.1 43 = .ok (.aload_n 0, 1) := by decide +kernel
theorem d_16_44 : decode (mth 16).2.1 44 = .ok (.getfield 15, 3) := by decide +kernel
theorem d_16_47 : decode (mth 16).2.1 47 = .ok (.iload_n 2, 1) := by decide +kernel
theorem d_16_48 : decode (mth 16).2.1 48 = .ok (.iaload, 1) := by decide +kernel
theorem d_16_49 : decode (mth 16).2.1 49 = .ok (.iaload, 1) := by decide +kernel
theorem d_16_50 : decode (mth 16).2.1 50 = .ok (.isub, 1) := by decide +kernel
theorem d_16_51 : decode (mth 16).2.1 51 = .ok (.invokestatic 80, 3) := by decide +kernel
theorem d_16_54 : decode (mth 16).2.1 54 = .ok (.ireturn, 1) := by decide +kernel
/-! 17 PlayedTruth$Stage.railOf(I)I -/
theorem d_17_0 : decode (mth 17).2.1 0 = .ok (.iload_n 1, 1) := by decide +kernel
theorem d_17_1 : decode (mth 17).2.1 1 = .ok (.ifCond .lt 20, 3) := by decide +kernel
theorem d_17_4 : decode (mth 17).2.1 4 = .ok (.iload_n 1, 1) := by decide +kernel
theorem d_17_5 : decode (mth 17).2.1 5 = .ok (.bipush 16, 2) := by decide +kernel
theorem d_17_7 : decode (mth 17).2.1 7 = .ok (.if_icmp .ge 14, 3) := by decide +kernel
theorem d_17_10 : decode (mth 17).2.1 10 = .ok (.aload_n 0, 1) := by decide +kernel
theorem d_17_11 : decode (mth 17).2.1 11 = .ok (.getfield 18, 3) := by decide +kernel
theorem d_17_14 : decode (mth 17).2.1 14 = .ok (.iload_n 1, 1) := by decide +kernel
theorem d_17_15 : decode (mth 17).2.1 15 = .ok (.iaload, 1) := by decide +kernel
theorem d_17_16 : decode (mth 17).2.1 16 = .ok (.iconst 4, 1) := by decide +kernel
theorem d_17_17 : decode (mth 17).2.1 17 = .ok (.idiv, 1) := by decide +kernel
theorem d_17_18 : decode (mth 17).2.1 18 = .ok (.goto 4, 3) := by decide +kernel
theorem d_17_21 : decode (mth 17).2.1 21 = .ok (.iconst 0, 1) := by decide +kernel
theorem d_17_22 : decode (mth 17).2.1 22 = .ok (.ireturn, 1) := by decide +kernel
/-! 20 PlayedTruth$Stage.leans(LPlayedTruth$Moment;I)I -/
theorem d_20_0 : decode (mth 20).2.1 0 = .ok (.iconst 0, 1) := by decide +kernel
theorem d_20_1 : decode (mth 20).2.1 1 = .ok (.istore_n 3, 1) := by decide +kernel
theorem d_20_2 : decode (mth 20).2.1 2 = .ok (.iconst 0, 1) := by decide +kernel
theorem d_20_3 : decode (mth 20).2.1 3 = .ok (.istore 4, 2) := by decide +kernel
theorem d_20_5 : decode (mth 20).2.1 5 = .ok (.iload 4, 2) := by decide +kernel
theorem d_20_7 : decode (mth 20).2.1 7 = .ok (.aload_n 0, 1) := by decide +kernel
theorem d_20_8 : decode (mth 20).2.1 8 = .ok (.getfield 37, 3) := by decide +kernel
theorem d_20_11 : decode (mth 20).2.1 11 = .ok (.if_icmp .ge 39, 3) := by decide +kernel
theorem d_20_14 : decode (mth 20).2.1 14 = .ok (.aload_n 1, 1) := by decide +kernel
theorem d_20_15 : decode (mth 20).2.1 15 = .ok (.iload 4, 2) := by decide +kernel
theorem d_20_17 : decode (mth 20).2.1 17 = .ok (.invokevirtual 59, 3) := by decide +kernel
theorem d_20_20 : decode (mth 20).2.1 20 = .ok (.ifCond .eq 24, 3) := by decide +kernel
theorem d_20_23 : decode (mth 20).2.1 23 = .ok (.aload_n 0, 1) := by decide +kernel
theorem d_20_24 : decode (mth 20).2.1 24 = .ok (.getfield 15, 3) := by decide +kernel
theorem d_20_27 : decode (mth 20).2.1 27 = .ok (.iload 4, 2) := by decide +kernel
theorem d_20_29 : decode (mth 20).2.1 29 = .ok (.iaload, 1) := by decide +kernel
theorem d_20_30 : decode (mth 20).2.1 30 = .ok (.aload_n 0, 1) := by decide +kernel
theorem d_20_31 : decode (mth 20).2.1 31 = .ok (.getfield 15, 3) := by decide +kernel
theorem d_20_34 : decode (mth 20).2.1 34 = .ok (.iload_n 2, 1) := by decide +kernel
theorem d_20_35 : decode (mth 20).2.1 35 = .ok (.iaload, 1) := by decide +kernel
theorem d_20_36 : decode (mth 20).2.1 36 = .ok (.iconst 1, 1) := by decide +kernel
theorem d_20_37 : decode (mth 20).2.1 37 = .ok (.isub, 1) := by decide +kernel
theorem d_20_38 : decode (mth 20).2.1 38 = .ok (.if_icmp .ne 6, 3) := by decide +kernel
theorem d_20_41 : decode (mth 20).2.1 41 = .ok (.iinc 3 1, 3) := by decide +kernel
theorem d_20_44 : decode (mth 20).2.1 44 = .ok (.iinc 4 1, 3) := by decide +kernel
theorem d_20_47 : decode (mth 20).2.1 47 = .ok (.goto (-42), 3) := by decide +kernel
theorem d_20_50 : decode (mth 20).2.1 50 = .ok (.iload_n 3, 1) := by decide +kernel
theorem d_20_51 : decode (mth 20).2.1 51 = .ok (.ireturn, 1) := by decide +kernel
/-! 21 PlayedTruth$Stage.draws(LPlayedTruth$Moment;I)I -/
theorem d_21_0 : decode (mth 21).2.1 0 = .ok (.aload_n 0, 1) := by decide +kernel
theorem d_21_1 : decode (mth 21).2.1 1 = .ok (.getfield 9, 3) := by decide +kernel
theorem d_21_4 : decode (mth 21).2.1 4 = .ok (.iload_n 2, 1) := by decide +kernel
theorem d_21_5 : decode (mth 21).2.1 5 = .ok (.iaload, 1) := by decide +kernel
theorem d_21_6 : decode (mth 21).2.1 6 = .ok (.aload_n 1, 1) := by decide +kernel
theorem d_21_7 : decode (mth 21).2.1 7 = .ok (.getfield 86, 3) := by decide +kernel
theorem d_21_10 : decode (mth 21).2.1 10 = .ok (.iload_n 2, 1) := by decide +kernel
theorem d_21_11 : decode (mth 21).2.1 11 = .ok (.iaload, 1) := by decide +kernel
theorem d_21_12 : decode (mth 21).2.1 12 = .ok (.aload_n 1, 1) := by decide +kernel
theorem d_21_13 : decode (mth 21).2.1 13 = .ok (.getfield 67, 3) := by decide +kernel
theorem d_21_16 : decode (mth 21).2.1 16 = .ok (.iload_n 2, 1) := by decide +kernel
theorem d_21_17 : decode (mth 21).2.1 17 = .ok (.iaload, 1) := by decide +kernel
theorem d_21_18 : decode (mth 21).2.1 18 = .ok (.iload_n 2, 1) := by decide +kernel
theorem d_21_19 : decode (mth 21).2.1 19 = .ok (.invokestatic 89, 3) := by decide +kernel
theorem d_21_22 : decode (mth 21).2.1 22 = .ok (.aload_n 0, 1) := by decide +kernel
theorem d_21_23 : decode (mth 21).2.1 23 = .ok (.getfield 21, 3) := by decide +kernel
theorem d_21_26 : decode (mth 21).2.1 26 = .ok (.aload_n 0, 1) := by decide +kernel
theorem d_21_27 : decode (mth 21).2.1 27 = .ok (.getfield 15, 3) := by decide +kernel
theorem d_21_30 : decode (mth 21).2.1 30 = .ok (.iload_n 2, 1) := by decide +kernel
theorem d_21_31 : decode (mth 21).2.1 31 = .ok (.iaload, 1) := by decide +kernel
theorem d_21_32 : decode (mth 21).2.1 32 = .ok (.iaload, 1) := by decide +kernel
theorem d_21_33 : decode (mth 21).2.1 33 = .ok (.iadd, 1) := by decide +kernel
theorem d_21_34 : decode (mth 21).2.1 34 = .ok (.ireturn, 1) := by decide +kernel
/-! 23 PlayedTruth$Stage.mayBeMended(LPlayedTruth$Moment;I)Z -/
theorem d_23_0 : decode (mth 23).2.1 0 = .ok (.aload_n 1, 1) := by decide +kernel
theorem d_23_1 : decode (mth 23).2.1 1 = .ok (.iload_n 2, 1) := by decide +kernel
theorem d_23_2 : decode (mth 23).2.1 2 = .ok (.invokevirtual 59, 3) := by decide +kernel
theorem d_23_5 : decode (mth 23).2.1 5 = .ok (.ifCond .ne 25, 3) := by decide +kernel
theorem d_23_8 : decode (mth 23).2.1 8 = .ok (.aload_n 0, 1) := by decide +kernel
theorem d_23_9 : decode (mth 23).2.1 9 = .ok (.aload_n 1, 1) := by decide +kernel
theorem d_23_10 : decode (mth 23).2.1 10 = .ok (.iload_n 2, 1) := by decide +kernel
theorem d_23_11 : decode (mth 23).2.1 11 = .ok (.invokevirtual 104, 3) := by decide +kernel
theorem d_23_14 : decode (mth 23).2.1 14 = .ok (.ifCond .le 16, 3) := by decide +kernel
theorem d_23_17 : decode (mth 23).2.1 17 = .ok (.aload_n 0, 1) := by decide +kernel
theorem d_23_18 : decode (mth 23).2.1 18 = .ok (.aload_n 1, 1) := by decide +kernel
theorem d_23_19 : decode (mth 23).2.1 19 = .ok (.iload_n 2, 1) := by decide +kernel
theorem d_23_20 : decode (mth 23).2.1 20 = .ok (.invokevirtual 106, 3) := by decide +kernel
theorem d_23_23 : decode (mth 23).2.1 23 = .ok (.ifCond .ne 7, 3) := by decide +kernel
theorem d_23_26 : decode (mth 23).2.1 26 = .ok (.iconst 1, 1) := by decide +kernel
theorem d_23_27 : decode (mth 23).2.1 27 = .ok (.goto 4, 3) := by decide +kernel
theorem d_23_30 : decode (mth 23).2.1 30 = .ok (.iconst 0, 1) := by decide +kernel
theorem d_23_31 : decode (mth 23).2.1 31 = .ok (.ireturn, 1) := by decide +kernel
/-! 24 PlayedTruth$Stage.will(LPlayedTruth$Moment;I)I -/
theorem d_24_0 : decode (mth 24).2.1 0 = .ok (.aload_n 0, 1) := by decide +kernel
theorem d_24_1 : decode (mth 24).2.1 1 = .ok (.getfield 30, 3) := by decide +kernel
theorem d_24_4 : decode (mth 24).2.1 4 = .ok (.getfield 97, 3) := by decide +kernel
theorem d_24_7 : decode (mth 24).2.1 7 = .ok (.ifCond .ne 5, 3) := by decide +kernel
theorem d_24_10 : decode (mth 24).2.1 10 = .ok (.iconst 0, 1) := by decide +kernel
theorem d_24_11 : decode (mth 24).2.1 11 = .ok (.ireturn, 1) := by decide +kernel
theorem d_24_12 : decode (mth 24).2.1 12 = .ok (.aload_n 0, 1) := by decide +kernel
theorem d_24_13 : decode (mth 24).2.1 13 = .ok (.getfield 34, 3) := by decide +kernel
theorem d_24_16 : decode (mth 24).2.1 16 = .ok (.iconst 0, 1) := by decide +kernel
theorem d_24_17 : decode (mth 24).2.1 17 = .ok (.aload_n 1, 1) := by decide +kernel
theorem d_24_18 : decode (mth 24).2.1 18 = .ok (.getfield 54, 3) := by decide +kernel
theorem d_24_21 : decode (mth 24).2.1 21 = .ok (.iastore, 1) := by decide +kernel
theorem d_24_22 : decode (mth 24).2.1 22 = .ok (.aload_n 0, 1) := by decide +kernel
theorem d_24_23 : decode (mth 24).2.1 23 = .ok (.getfield 34, 3) := by decide +kernel
theorem d_24_26 : decode (mth 24).2.1 26 = .ok (.iconst 1, 1) := by decide +kernel
theorem d_24_27 : decode (mth 24).2.1 27 = .ok (.aload_n 1, 1) := by decide +kernel
theorem d_24_28 : decode (mth 24).2.1 28 = .ok (.getfield 67, 3) := by decide +kernel
theorem d_24_31 : decode (mth 24).2.1 31 = .ok (.iload_n 2, 1) := by decide +kernel
theorem d_24_32 : decode (mth 24).2.1 32 = .ok (.iaload, 1) := by decide +kernel
theorem d_24_33 : decode (mth 24).2.1 33 = .ok (.iastore, 1) := by decide +kernel
theorem d_24_34 : decode (mth 24).2.1 34 = .ok (.aload_n 0, 1) := by decide +kernel
theorem d_24_35 : decode (mth 24).2.1 35 = .ok (.getfield 34, 3) := by decide +kernel
theorem d_24_38 : decode (mth 24).2.1 38 = .ok (.iconst 2, 1) := by decide +kernel
theorem d_24_39 : decode (mth 24).2.1 39 = .ok (.aload_n 1, 1) := by decide +kernel
theorem d_24_40 : decode (mth 24).2.1 40 = .ok (.getfield 86, 3) := by decide +kernel
theorem d_24_43 : decode (mth 24).2.1 43 = .ok (.iload_n 2, 1) := by decide +kernel
theorem d_24_44 : decode (mth 24).2.1 44 = .ok (.iaload, 1) := by decide +kernel
theorem d_24_45 : decode (mth 24).2.1 45 = .ok (.iastore, 1) := by decide +kernel
theorem d_24_46 : decode (mth 24).2.1 46 = .ok (.aload_n 0, 1) := by decide +kernel
theorem d_24_47 : decode (mth 24).2.1 47 = .ok (.getfield 34, 3) := by decide +kernel
theorem d_24_50 : decode (mth 24).2.1 50 = .ok (.iconst 3, 1) := by decide +kernel
theorem d_24_51 : decode (mth 24).2.1 51 = .ok (.aload_n 0, 1) := by decide +kernel
theorem d_24_52 : decode (mth 24).2.1 52 = .ok (.aload_n 1, 1) := by decide +kernel
theorem d_24_53 : decode (mth 24).2.1 53 = .ok (.getfield 54, 3) := by decide +kernel
theorem d_24_56 : decode (mth 24).2.1 56 = .ok (.invokevirtual 63, 3) := by decide +kernel
theorem d_24_59 : decode (mth 24).2.1 59 = .ok (.iastore, 1) := by decide +kernel
theorem d_24_60 : decode (mth 24).2.1 60 = .ok (.aload_n 0, 1) := by decide +kernel
theorem d_24_61 : decode (mth 24).2.1 61 = .ok (.getfield 34, 3) := by decide +kernel
theorem d_24_64 : decode (mth 24).2.1 64 = .ok (.iconst 4, 1) := by decide +kernel
theorem d_24_65 : decode (mth 24).2.1 65 = .ok (.iload_n 2, 1) := by decide +kernel
theorem d_24_66 : decode (mth 24).2.1 66 = .ok (.iastore, 1) := by decide +kernel
theorem d_24_67 : decode (mth 24).2.1 67 = .ok (.aload_n 0, 1) := by decide +kernel
theorem d_24_68 : decode (mth 24).2.1 68 = .ok (.getfield 30, 3) := by decide +kernel
theorem d_24_71 : decode (mth 24).2.1 71 = .ok (.aload_n 0, 1) := by decide +kernel
theorem d_24_72 : decode (mth 24).2.1 72 = .ok (.getfield 9, 3) := by decide +kernel
theorem d_24_75 : decode (mth 24).2.1 75 = .ok (.iload_n 2, 1) := by decide +kernel
theorem d_24_76 : decode (mth 24).2.1 76 = .ok (.iaload, 1) := by decide +kernel
theorem d_24_77 : decode (mth 24).2.1 77 = .ok (.aload_n 0, 1) := by decide +kernel
theorem d_24_78 : decode (mth 24).2.1 78 = .ok (.getfield 34, 3) := by decide +kernel
theorem d_24_81 : decode (mth 24).2.1 81 = .ok (.invokevirtual 100, 3) := by decide +kernel
theorem d_24_84 : decode (mth 24).2.1 84 = .ok (.ireturn, 1) := by decide +kernel
/-! 38 PlayedTruth$Stage.isOver(LPlayedTruth$Moment;)Z -/
theorem d_38_0 : decode (mth 38).2.1 0 = .ok (.aload_n 1, 1) := by decide +kernel
theorem d_38_1 : decode (mth 38).2.1 1 = .ok (.getfield 54, 3) := by decide +kernel
theorem d_38_4 : decode (mth 38).2.1 4 = .ok (.aload_n 0, 1) := by decide +kernel
theorem d_38_5 : decode (mth 38).2.1 5 = .ok (.getfield 41, 3) := by decide +kernel
theorem d_38_8 : decode (mth 38).2.1 8 = .ok (.if_icmp .lt 7, 3) := by decide +kernel
theorem d_38_11 : decode (mth 38).2.1 11 = .ok (.iconst 1, 1) := by decide +kernel
theorem d_38_12 : decode (mth 38).2.1 12 = .ok (.goto 4, 3) := by decide +kernel
theorem d_38_15 : decode (mth 38).2.1 15 = .ok (.iconst 0, 1) := by decide +kernel
theorem d_38_16 : decode (mth 38).2.1 16 = .ok (.ireturn, 1) := by decide +kernel
/-! 39 PlayedTruth$Stage.houseOf(I)I -/
theorem d_39_0 : decode (mth 39).2.1 0 = .ok (.iload_n 1, 1) := by decide +kernel
theorem d_39_1 : decode (mth 39).2.1 1 = .ok (.ifCond .lt 18, 3) := by decide +kernel
theorem d_39_4 : decode (mth 39).2.1 4 = .ok (.iload_n 1, 1) := by decide +kernel
theorem d_39_5 : decode (mth 39).2.1 5 = .ok (.bipush 16, 2) := by decide +kernel
theorem d_39_7 : decode (mth 39).2.1 7 = .ok (.if_icmp .ge 12, 3) := by decide +kernel
theorem d_39_10 : decode (mth 39).2.1 10 = .ok (.aload_n 0, 1) := by decide +kernel
theorem d_39_11 : decode (mth 39).2.1 11 = .ok (.getfield 18, 3) := by decide +kernel
theorem d_39_14 : decode (mth 39).2.1 14 = .ok (.iload_n 1, 1) := by decide +kernel
theorem d_39_15 : decode (mth 39).2.1 15 = .ok (.iaload, 1) := by decide +kernel
theorem d_39_16 : decode (mth 39).2.1 16 = .ok (.goto 4, 3) := by decide +kernel
theorem d_39_19 : decode (mth 39).2.1 19 = .ok (.iconst 0, 1) := by decide +kernel
theorem d_39_20 : decode (mth 39).2.1 20 = .ok (.ireturn, 1) := by decide +kernel
/-! 40 PlayedTruth$Stage.truthOfAll(LPlayedTruth$Moment;)I -/
theorem d_40_0 : decode (mth 40).2.1 0 = .ok (.iconst 0, 1) := by decide +kernel
theorem d_40_1 : decode (mth 40).2.1 1 = .ok (.istore_n 2, 1) := by decide +kernel
theorem d_40_2 : decode (mth 40).2.1 2 = .ok (.iconst 0, 1) := by decide +kernel
theorem d_40_3 : decode (mth 40).2.1 3 = .ok (.istore_n 3, 1) := by decide +kernel
theorem d_40_4 : decode (mth 40).2.1 4 = .ok (.iload_n 3, 1) := by decide +kernel
theorem d_40_5 : decode (mth 40).2.1 5 = .ok (.aload_n 0, 1) := by decide +kernel
theorem d_40_6 : decode (mth 40).2.1 6 = .ok (.getfield 37, 3) := by decide +kernel
theorem d_40_9 : decode (mth 40).2.1 9 = .ok (.if_icmp .ge 18, 3) := by decide +kernel
theorem d_40_12 : decode (mth 40).2.1 12 = .ok (.iload_n 2, 1) := by decide +kernel
theorem d_40_13 : decode (mth 40).2.1 13 = .ok (.aload_n 1, 1) := by decide +kernel
theorem d_40_14 : decode (mth 40).2.1 14 = .ok (.getfield 67, 3) := by decide +kernel
theorem d_40_17 : decode (mth 40).2.1 17 = .ok (.iload_n 3, 1) := by decide +kernel
theorem d_40_18 : decode (mth 40).2.1 18 = .ok (.iaload, 1) := by decide +kernel
theorem d_40_19 : decode (mth 40).2.1 19 = .ok (.iadd, 1) := by decide +kernel
theorem d_40_20 : decode (mth 40).2.1 20 = .ok (.istore_n 2, 1) := by decide +kernel
theorem d_40_21 : decode (mth 40).2.1 21 = .ok (.iinc 3 1, 3) := by decide +kernel
theorem d_40_24 : decode (mth 40).2.1 24 = .ok (.goto (-20), 3) := by decide +kernel
theorem d_40_27 : decode (mth 40).2.1 27 = .ok (.iload_n 2, 1) := by decide +kernel
theorem d_40_28 : decode (mth 40).2.1 28 = .ok (.ireturn, 1) := by decide +kernel
/-! 80 PlayedTruth$Stage.actOfRest(LPlayedTruth$Moment;)I -/
theorem d_80_0 : decode (mth 80).2.1 0 = .ok (.iconst 0, 1) := by decide +kernel
theorem d_80_1 : decode (mth 80).2.1 1 = .ok (.istore_n 2, 1) := by decide +kernel
theorem d_80_2 : decode (mth 80).2.1 2 = .ok (.iload_n 2, 1) := by decide +kernel
theorem d_80_3 : decode (mth 80).2.1 3 = .ok (.aload_n 0, 1) := by decide +kernel
theorem d_80_4 : decode (mth 80).2.1 4 = .ok (.getfield 37, 3) := by decide +kernel
theorem d_80_7 : decode (mth 80).2.1 7 = .ok (.if_icmp .ge 22, 3) := by decide +kernel
theorem d_80_10 : decode (mth 80).2.1 10 = .ok (.aload_n 0, 1) := by decide +kernel
theorem d_80_11 : decode (mth 80).2.1 11 = .ok (.aload_n 1, 1) := by decide +kernel
theorem d_80_12 : decode (mth 80).2.1 12 = .ok (.iload_n 2, 1) := by decide +kernel
theorem d_80_13 : decode (mth 80).2.1 13 = .ok (.invokevirtual 109, 3) := by decide +kernel
theorem d_80_16 : decode (mth 80).2.1 16 = .ok (.ifCond .eq 7, 3) := by decide +kernel
theorem d_80_19 : decode (mth 80).2.1 19 = .ok (.iload_n 2, 1) := by decide +kernel
theorem d_80_20 : decode (mth 80).2.1 20 = .ok (.iconst 1, 1) := by decide +kernel
theorem d_80_21 : decode (mth 80).2.1 21 = .ok (.iadd, 1) := by decide +kernel
theorem d_80_22 : decode (mth 80).2.1 22 = .ok (.ireturn, 1) := by decide +kernel
theorem d_80_23 : decode (mth 80).2.1 23 = .ok (.iinc 2 1, 3) := by decide +kernel
theorem d_80_26 : decode (mth 80).2.1 26 = .ok (.goto (-24), 3) := by decide +kernel
theorem d_80_29 : decode (mth 80).2.1 29 = .ok (.iconst 0, 1) := by decide +kernel
theorem d_80_30 : decode (mth 80).2.1 30 = .ok (.ireturn, 1) := by decide +kernel
/-! 81 PlayedTruth$Stage.goBy(LPlayedTruth$Moment;I)I -/
theorem d_81_0 : decode (mth 81).2.1 0 = .ok (.iload_n 2, 1) := by decide +kernel
theorem d_81_1 : decode (mth 81).2.1 1 = .ok (.iconst 1, 1) := by decide +kernel
theorem d_81_2 : decode (mth 81).2.1 2 = .ok (.isub, 1) := by decide +kernel
theorem d_81_3 : decode (mth 81).2.1 3 = .ok (.istore_n 3, 1) := by decide +kernel
theorem d_81_4 : decode (mth 81).2.1 4 = .ok (.iconst 0, 1) := by decide +kernel
theorem d_81_5 : decode (mth 81).2.1 5 = .ok (.istore 4, 2) := by decide +kernel
theorem d_81_7 : decode (mth 81).2.1 7 = .ok (.iload_n 3, 1) := by decide +kernel
theorem d_81_8 : decode (mth 81).2.1 8 = .ok (.ifCond .lt 54, 3) := by decide +kernel
theorem d_81_11 : decode (mth 81).2.1 11 = .ok (.iload_n 3, 1) := by decide +kernel
theorem d_81_12 : decode (mth 81).2.1 12 = .ok (.aload_n 0, 1) := by decide +kernel
theorem d_81_13 : decode (mth 81).2.1 13 = .ok (.getfield 37, 3) := by decide +kernel
theorem d_81_16 : decode (mth 81).2.1 16 = .ok (.if_icmp .ge 46, 3) := by decide +kernel
theorem d_81_19 : decode (mth 81).2.1 19 = .ok (.aload_n 1, 1) := by decide +kernel
theorem d_81_20 : decode (mth 81).2.1 20 = .ok (.iload_n 3, 1) := by decide +kernel
theorem d_81_21 : decode (mth 81).2.1 21 = .ok (.invokevirtual 59, 3) := by decide +kernel
theorem d_81_24 : decode (mth 81).2.1 24 = .ok (.ifCond .ne 38, 3) := by decide +kernel
theorem d_81_27 : decode (mth 81).2.1 27 = .ok (.aload_n 0, 1) := by decide +kernel
theorem d_81_28 : decode (mth 81).2.1 28 = .ok (.aload_n 1, 1) := by decide +kernel
theorem d_81_29 : decode (mth 81).2.1 29 = .ok (.iload_n 3, 1) := by decide +kernel
theorem d_81_30 : decode (mth 81).2.1 30 = .ok (.invokevirtual 106, 3) := by decide +kernel
theorem d_81_33 : decode (mth 81).2.1 33 = .ok (.istore 5, 2) := by decide +kernel
theorem d_81_35 : decode (mth 81).2.1 35 = .ok (.iload 5, 2) := by decide +kernel
theorem d_81_37 : decode (mth 81).2.1 37 = .ok (.ifCond .ne 11, 3) := by decide +kernel
theorem d_81_40 : decode (mth 81).2.1 40 = .ok (.aload_n 0, 1) := by decide +kernel
theorem d_81_41 : decode (mth 81).2.1 41 = .ok (.aload_n 1, 1) := by decide +kernel
theorem d_81_42 : decode (mth 81).2.1 42 = .ok (.iload_n 3, 1) := by decide +kernel
theorem d_81_43 : decode (mth 81).2.1 43 = .ok (.invokevirtual 113, 3) := by decide +kernel
theorem d_81_46 : decode (mth 81).2.1 46 = .ok (.istore 4, 2) := by decide +kernel
theorem d_81_48 : decode (mth 81).2.1 48 = .ok (.iload 5, 2) := by decide +kernel
theorem d_81_50 : decode (mth 81).2.1 50 = .ok (.iconst 2, 1) := by decide +kernel
theorem d_81_51 : decode (mth 81).2.1 51 = .ok (.if_icmp .ne 11, 3) := by decide +kernel
theorem d_81_54 : decode (mth 81).2.1 54 = .ok (.aload_n 0, 1) := by decide +kernel
theorem d_81_55 : decode (mth 81).2.1 55 = .ok (.aload_n 1, 1) := by decide +kernel
theorem d_81_56 : decode (mth 81).2.1 56 = .ok (.iload_n 3, 1) := by decide +kernel
theorem d_81_57 : decode (mth 81).2.1 57 = .ok (.invokevirtual 116, 3) := by decide +kernel
theorem d_81_60 : decode (mth 81).2.1 60 = .ok (.istore 4, 2) := by decide +kernel
theorem d_81_62 : decode (mth 81).2.1 62 = .ok (.iconst 0, 1) := by decide +kernel
theorem d_81_63 : decode (mth 81).2.1 63 = .ok (.istore 5, 2) := by decide +kernel
theorem d_81_65 : decode (mth 81).2.1 65 = .ok (.iload 5, 2) := by decide +kernel
theorem d_81_67 : decode (mth 81).2.1 67 = .ok (.aload_n 0, 1) := by decide +kernel
theorem d_81_68 : decode (mth 81).2.1 68 = .ok (.getfield 37, 3) := by decide +kernel
theorem d_81_71 : decode (mth 81).2.1 71 = .ok (.if_icmp .ge 21, 3) := by decide +kernel
theorem d_81_74 : decode (mth 81).2.1 74 = .ok (.iload 4, 2) := by decide +kernel
theorem d_81_76 : decode (mth 81).2.1 76 = .ok (.aload_n 0, 1) := by decide +kernel
theorem d_81_77 : decode (mth 81).2.1 77 = .ok (.aload_n 1, 1) := by decide +kernel
theorem d_81_78 : decode (mth 81).2.1 78 = .ok (.iload 5, 2) := by decide +kernel
theorem d_81_80 : decode (mth 81).2.1 80 = .ok (.invokevirtual 92, 3) := by decide +kernel
theorem d_81_83 : decode (mth 81).2.1 83 = .ok (.iadd, 1) := by decide +kernel
theorem d_81_84 : decode (mth 81).2.1 84 = .ok (.istore 4, 2) := by decide +kernel
theorem d_81_86 : decode (mth 81).2.1 86 = .ok (.iinc 5 1, 3) := by decide +kernel
theorem d_81_89 : decode (mth 81).2.1 89 = .ok (.goto (-24), 3) := by decide +kernel
theorem d_81_92 : decode (mth 81).2.1 92 = .ok (.iconst 0, 1) := by decide +kernel
theorem d_81_93 : decode (mth 81).2.1 93 = .ok (.istore 5, 2) := by decide +kernel
theorem d_81_95 : decode (mth 81).2.1 95 = .ok (.iload 5, 2) := by decide +kernel
theorem d_81_97 : decode (mth 81).2.1 97 = .ok (.aload_n 0, 1) := by decide +kernel
theorem d_81_98 : decode (mth 81).2.1 98 = .ok (.getfield 37, 3) := by decide +kernel
theorem d_81_101 : decode (mth 81).2.1 101 = .ok (.if_icmp .ge 38, 3) := by decide +kernel
theorem d_81_104 : decode (mth 81).2.1 104 = .ok (.aload_n 1, 1) := by decide +kernel
theorem d_81_105 : decode (mth 81).2.1 105 = .ok (.iload 5, 2) := by decide +kernel
theorem d_81_107 : decode (mth 81).2.1 107 = .ok (.invokevirtual 59, 3) := by decide +kernel
theorem d_81_110 : decode (mth 81).2.1 110 = .ok (.ifCond .ne 23, 3) := by decide +kernel
theorem d_81_113 : decode (mth 81).2.1 113 = .ok (.aload_n 1, 1) := by decide +kernel
theorem d_81_114 : decode (mth 81).2.1 114 = .ok (.getfield 67, 3) := by decide +kernel
theorem d_81_117 : decode (mth 81).2.1 117 = .ok (.iload 5, 2) := by decide +kernel
theorem d_81_119 : decode (mth 81).2.1 119 = .ok (.iconst 0, 1) := by decide +kernel
theorem d_81_120 : decode (mth 81).2.1 120 = .ok (.aload_n 1, 1) := by decide +kernel
theorem d_81_121 : decode (mth 81).2.1 121 = .ok (.getfield 67, 3) := by decide +kernel
theorem d_81_124 : decode (mth 81).2.1 124 = .ok (.iload 5, 2) := by decide +kernel
theorem d_81_126 : decode (mth 81).2.1 126 = .ok (.iaload, 1) := by decide +kernel
theorem d_81_127 : decode (mth 81).2.1 127 = .ok (.iconst 1, 1) := by decide +kernel
theorem d_81_128 : decode (mth 81).2.1 128 = .ok (.isub, 1) := by decide +kernel
theorem d_81_129 : decode (mth 81).2.1 129 = .ok (.invokestatic 80, 3) := by decide +kernel
theorem d_81_132 : decode (mth 81).2.1 132 = .ok (.iastore, 1) := by decide +kernel
theorem d_81_133 : decode (mth 81).2.1 133 = .ok (.iinc 5 1, 3) := by decide +kernel
theorem d_81_136 : decode (mth 81).2.1 136 = .ok (.goto (-41), 3) := by decide +kernel
theorem d_81_139 : decode (mth 81).2.1 139 = .ok (.aload_n 1, 1) := by decide +kernel
theorem d_81_140 : decode (mth 81).2.1 140 = .ok (.dup, 1) := by decide +kernel
theorem d_81_141 : decode (mth 81).2.1 141 = .ok (.getfield 54, 3) := by decide +kernel
theorem d_81_144 : decode (mth 81).2.1 144 = .ok (.iconst 1, 1) := by decide +kernel
theorem d_81_145 : decode (mth 81).2.1 145 = .ok (.iadd, 1) := by decide +kernel
theorem d_81_146 : decode (mth 81).2.1 146 = .ok (.putfield 54, 3) := by decide +kernel
theorem d_81_149 : decode (mth 81).2.1 149 = .ok (.aload_n 1, 1) := by decide +kernel
theorem d_81_150 : decode (mth 81).2.1 150 = .ok (.dup, 1) := by decide +kernel
theorem d_81_151 : decode (mth 81).2.1 151 = .ok (.getfield 119, 3) := by decide +kernel
theorem d_81_154 : decode (mth 81).2.1 154 = .ok (.iload 4, 2) := by decide +kernel
theorem d_81_156 : decode (mth 81).2.1 156 = .ok (.iadd, 1) := by decide +kernel
theorem d_81_157 : decode (mth 81).2.1 157 = .ok (.putfield 119, 3) := by decide +kernel
theorem d_81_160 : decode (mth 81).2.1 160 = .ok (.iload 4, 2) := by decide +kernel
theorem d_81_162 : decode (mth 81).2.1 162 = .ok (.ireturn, 1) := by decide +kernel
/-! 82 PlayedTruth$Stage.mend(LPlayedTruth$Moment;I)I -/
theorem d_82_0 : decode (mth 82).2.1 0 = .ok (.aload_n 0, 1) := by decide +kernel
theorem d_82_1 : decode (mth 82).2.1 1 = .ok (.aload_n 1, 1) := by decide +kernel
theorem d_82_2 : decode (mth 82).2.1 2 = .ok (.iload_n 2, 1) := by decide +kernel
theorem d_82_3 : decode (mth 82).2.1 3 = .ok (.invokevirtual 104, 3) := by decide +kernel
theorem d_82_6 : decode (mth 82).2.1 6 = .ok (.istore_n 3, 1) := by decide +kernel
theorem d_82_7 : decode (mth 82).2.1 7 = .ok (.aload_n 1, 1) := by decide +kernel
theorem d_82_8 : decode (mth 82).2.1 8 = .ok (.getfield 67, 3) := by decide +kernel
theorem d_82_11 : decode (mth 82).2.1 11 = .ok (.iload_n 2, 1) := by decide +kernel
theorem d_82_12 : decode (mth 82).2.1 12 = .ok (.bipush 99, 2) := by decide +kernel
theorem d_82_14 : decode (mth 82).2.1 14 = .ok (.aload_n 1, 1) := by decide +kernel
theorem d_82_15 : decode (mth 82).2.1 15 = .ok (.getfield 67, 3) := by decide +kernel
theorem d_82_18 : decode (mth 82).2.1 18 = .ok (.iload_n 2, 1) := by decide +kernel
theorem d_82_19 : decode (mth 82).2.1 19 = .ok (.iaload, 1) := by decide +kernel
theorem d_82_20 : decode (mth 82).2.1 20 = .ok (.iload_n 3, 1) := by decide +kernel
theorem d_82_21 : decode (mth 82).2.1 21 = .ok (.iadd, 1) := by decide +kernel
theorem d_82_22 : decode (mth 82).2.1 22 = .ok (.invokestatic 122, 3) := by decide +kernel
theorem d_82_25 : decode (mth 82).2.1 25 = .ok (.iastore, 1) := by decide +kernel
theorem d_82_26 : decode (mth 82).2.1 26 = .ok (.aload_n 1, 1) := by decide +kernel
theorem d_82_27 : decode (mth 82).2.1 27 = .ok (.getfield 67, 3) := by decide +kernel
theorem d_82_30 : decode (mth 82).2.1 30 = .ok (.iload_n 2, 1) := by decide +kernel
theorem d_82_31 : decode (mth 82).2.1 31 = .ok (.iaload, 1) := by decide +kernel
theorem d_82_32 : decode (mth 82).2.1 32 = .ok (.bipush 60, 2) := by decide +kernel
theorem d_82_34 : decode (mth 82).2.1 34 = .ok (.if_icmp .lt 15, 3) := by decide +kernel
theorem d_82_37 : decode (mth 82).2.1 37 = .ok (.aload_n 1, 1) := by decide +kernel
theorem d_82_38 : decode (mth 82).2.1 38 = .ok (.dup, 1) := by decide +kernel
theorem d_82_39 : decode (mth 82).2.1 39 = .ok (.getfield 125, 3) := by decide +kernel
theorem d_82_42 : decode (mth 82).2.1 42 = .ok (.iconst 1, 1) := by decide +kernel
theorem d_82_43 : decode (mth 82).2.1 43 = .ok (.iload_n 2, 1) := by decide +kernel
theorem d_82_44 : decode (mth 82).2.1 44 = .ok (.ishl, 1) := by decide +kernel
theorem d_82_45 : decode (mth 82).2.1 45 = .ok (.ior, 1) := by decide +kernel
theorem d_82_46 : decode (mth 82).2.1 46 = .ok (.putfield 125, 3) := by decide +kernel
theorem d_82_49 : decode (mth 82).2.1 49 = .ok (.iload_n 3, 1) := by decide +kernel
theorem d_82_50 : decode (mth 82).2.1 50 = .ok (.ireturn, 1) := by decide +kernel
/-! 84 PlayedTruth$Stage.trim(LPlayedTruth$Moment;I)I -/
theorem d_84_0 : decode (mth 84).2.1 0 = .ok (.aload_n 1, 1) := by decide +kernel
theorem d_84_1 : decode (mth 84).2.1 1 = .ok (.getfield 86, 3) := by decide +kernel
theorem d_84_4 : decode (mth 84).2.1 4 = .ok (.iload_n 2, 1) := by decide +kernel
theorem d_84_5 : decode (mth 84).2.1 5 = .ok (.bipush 9, 2) := by decide +kernel
theorem d_84_7 : decode (mth 84).2.1 7 = .ok (.aload_n 1, 1) := by decide +kernel
theorem d_84_8 : decode (mth 84).2.1 8 = .ok (.getfield 86, 3) := by decide +kernel
theorem d_84_11 : decode (mth 84).2.1 11 = .ok (.iload_n 2, 1) := by decide +kernel
theorem d_84_12 : decode (mth 84).2.1 12 = .ok (.iaload, 1) := by decide +kernel
theorem d_84_13 : decode (mth 84).2.1 13 = .ok (.iconst 1, 1) := by decide +kernel
theorem d_84_14 : decode (mth 84).2.1 14 = .ok (.iadd, 1) := by decide +kernel
theorem d_84_15 : decode (mth 84).2.1 15 = .ok (.invokestatic 122, 3) := by decide +kernel
theorem d_84_18 : decode (mth 84).2.1 18 = .ok (.iastore, 1) := by decide +kernel
theorem d_84_19 : decode (mth 84).2.1 19 = .ok (.aload_n 1, 1) := by decide +kernel
theorem d_84_20 : decode (mth 84).2.1 20 = .ok (.getfield 67, 3) := by decide +kernel
theorem d_84_23 : decode (mth 84).2.1 23 = .ok (.iload_n 2, 1) := by decide +kernel
theorem d_84_24 : decode (mth 84).2.1 24 = .ok (.iconst 0, 1) := by decide +kernel
theorem d_84_25 : decode (mth 84).2.1 25 = .ok (.aload_n 1, 1) := by decide +kernel
theorem d_84_26 : decode (mth 84).2.1 26 = .ok (.getfield 67, 3) := by decide +kernel
theorem d_84_29 : decode (mth 84).2.1 29 = .ok (.iload_n 2, 1) := by decide +kernel
theorem d_84_30 : decode (mth 84).2.1 30 = .ok (.iaload, 1) := by decide +kernel
theorem d_84_31 : decode (mth 84).2.1 31 = .ok (.bipush 10, 2) := by decide +kernel
theorem d_84_33 : decode (mth 84).2.1 33 = .ok (.isub, 1) := by decide +kernel
theorem d_84_34 : decode (mth 84).2.1 34 = .ok (.invokestatic 80, 3) := by decide +kernel
theorem d_84_37 : decode (mth 84).2.1 37 = .ok (.iastore, 1) := by decide +kernel
theorem d_84_38 : decode (mth 84).2.1 38 = .ok (.iconst 2, 1) := by decide +kernel
theorem d_84_39 : decode (mth 84).2.1 39 = .ok (.aload_n 0, 1) := by decide +kernel
theorem d_84_40 : decode (mth 84).2.1 40 = .ok (.aload_n 1, 1) := by decide +kernel
theorem d_84_41 : decode (mth 84).2.1 41 = .ok (.getfield 54, 3) := by decide +kernel
theorem d_84_44 : decode (mth 84).2.1 44 = .ok (.invokevirtual 128, 3) := by decide +kernel
theorem d_84_47 : decode (mth 84).2.1 47 = .ok (.iconst 4, 1) := by decide +kernel
theorem d_84_48 : decode (mth 84).2.1 48 = .ok (.irem, 1) := by decide +kernel
theorem d_84_49 : decode (mth 84).2.1 49 = .ok (.imul, 1) := by decide +kernel
theorem d_84_50 : decode (mth 84).2.1 50 = .ok (.ireturn, 1) := by decide +kernel
/-! 97 PlayedTruth$Stage.scenesIn(I)I -/
theorem d_97_0 : decode (mth 97).2.1 0 = .ok (.iconst 0, 1) := by decide +kernel
theorem d_97_1 : decode (mth 97).2.1 1 = .ok (.istore_n 2, 1) := by decide +kernel
theorem d_97_2 : decode (mth 97).2.1 2 = .ok (.iconst 0, 1) := by decide +kernel
theorem d_97_3 : decode (mth 97).2.1 3 = .ok (.istore_n 3, 1) := by decide +kernel
theorem d_97_4 : decode (mth 97).2.1 4 = .ok (.iload_n 3, 1) := by decide +kernel
theorem d_97_5 : decode (mth 97).2.1 5 = .ok (.aload_n 0, 1) := by decide +kernel
theorem d_97_6 : decode (mth 97).2.1 6 = .ok (.getfield 37, 3) := by decide +kernel
theorem d_97_9 : decode (mth 97).2.1 9 = .ok (.if_icmp .ge 25, 3) := by decide +kernel
theorem d_97_12 : decode (mth 97).2.1 12 = .ok (.aload_n 0, 1) := by decide +kernel
theorem d_97_13 : decode (mth 97).2.1 13 = .ok (.getfield 15, 3) := by decide +kernel
theorem d_97_16 : decode (mth 97).2.1 16 = .ok (.iload_n 3, 1) := by decide +kernel
theorem d_97_17 : decode (mth 97).2.1 17 = .ok (.iaload, 1) := by decide +kernel
theorem d_97_18 : decode (mth 97).2.1 18 = .ok (.iload_n 1, 1) := by decide +kernel
theorem d_97_19 : decode (mth 97).2.1 19 = .ok (.if_icmp .ne 9, 3) := by decide +kernel
theorem d_97_22 : decode (mth 97).2.1 22 = .ok (.iload_n 2, 1) := by decide +kernel
theorem d_97_23 : decode (mth 97).2.1 23 = .ok (.iconst 1, 1) := by decide +kernel
theorem d_97_24 : decode (mth 97).2.1 24 = .ok (.iload_n 3, 1) := by decide +kernel
theorem d_97_25 : decode (mth 97).2.1 25 = .ok (.ishl, 1) := by decide +kernel
theorem d_97_26 : decode (mth 97).2.1 26 = .ok (.ior, 1) := by decide +kernel
theorem d_97_27 : decode (mth 97).2.1 27 = .ok (.istore_n 2, 1) := by decide +kernel
theorem d_97_28 : decode (mth 97).2.1 28 = .ok (.iinc 3 1, 3) := by decide +kernel
theorem d_97_31 : decode (mth 97).2.1 31 = .ok (.goto (-27), 3) := by decide +kernel
theorem d_97_34 : decode (mth 97).2.1 34 = .ok (.iload_n 2, 1) := by decide +kernel
theorem d_97_35 : decode (mth 97).2.1 35 = .ok (.ireturn, 1) := by decide +kernel
/-! 102 PlayedTruth$Stage.areClose(LPlayedTruth$Moment;II)Z -/
theorem d_102_0 : decode (mth 102).2.1 0 = .ok (.aload_n 1, 1) := by decide +kernel
theorem d_102_1 : decode (mth 102).2.1 1 = .ok (.iload_n 2, 1) := by decide +kernel
theorem d_102_2 : decode (mth 102).2.1 2 = .ok (.invokevirtual 59, 3) := by decide +kernel
theorem d_102_5 : decode (mth 102).2.1 5 = .ok (.ifCond .ne 11, 3) := by decide +kernel
theorem d_102_8 : decode (mth 102).2.1 8 = .ok (.aload_n 1, 1) := by decide +kernel
theorem d_102_9 : decode (mth 102).2.1 9 = .ok (.iload_n 3, 1) := by decide +kernel
theorem d_102_10 : decode (mth 102).2.1 10 = .ok (.invokevirtual 59, 3) := by decide +kernel
theorem d_102_13 : decode (mth 102).2.1 13 = .ok (.ifCond .eq 5, 3) := by decide +kernel
theorem d_102_16 : decode (mth 102).2.1 16 = .ok (.iconst 0, 1) := by decide +kernel
theorem d_102_17 : decode (mth 102).2.1 17 = .ok (.ireturn, 1) := by decide +kernel
theorem d_102_18 : decode (mth 102).2.1 18 = .ok (.aload_n 0, 1) := by decide +kernel
theorem d_102_19 : decode (mth 102).2.1 19 = .ok (.getfield 15, 3) := by decide +kernel
theorem d_102_22 : decode (mth 102).2.1 22 = .ok (.iload_n 2, 1) := by decide +kernel
theorem d_102_23 : decode (mth 102).2.1 23 = .ok (.iaload, 1) := by decide +kernel
theorem d_102_24 : decode (mth 102).2.1 24 = .ok (.aload_n 0, 1) := by decide +kernel
theorem d_102_25 : decode (mth 102).2.1 25 = .ok (.getfield 15, 3) := by decide +kernel
theorem d_102_28 : decode (mth 102).2.1 28 = .ok (.iload_n 3, 1) := by decide +kernel
theorem d_102_29 : decode (mth 102).2.1 29 = .ok (.iaload, 1) := by decide +kernel
theorem d_102_30 : decode (mth 102).2.1 30 = .ok (.if_icmp .eq 23, 3) := by decide +kernel
theorem d_102_33 : decode (mth 102).2.1 33 = .ok (.aload_n 1, 1) := by decide +kernel
theorem d_102_34 : decode (mth 102).2.1 34 = .ok (.getfield 67, 3) := by decide +kernel
theorem d_102_37 : decode (mth 102).2.1 37 = .ok (.iload_n 2, 1) := by decide +kernel
theorem d_102_38 : decode (mth 102).2.1 38 = .ok (.iaload, 1) := by decide +kernel
theorem d_102_39 : decode (mth 102).2.1 39 = .ok (.aload_n 1, 1) := by decide +kernel
theorem d_102_40 : decode (mth 102).2.1 40 = .ok (.getfield 67, 3) := by decide +kernel
theorem d_102_43 : decode (mth 102).2.1 43 = .ok (.iload_n 3, 1) := by decide +kernel
theorem d_102_44 : decode (mth 102).2.1 44 = .ok (.iaload, 1) := by decide +kernel
theorem d_102_45 : decode (mth 102).2.1 45 = .ok (.isub, 1) := by decide +kernel
theorem d_102_46 : decode (mth 102).2.1 46 = .ok (.invokestatic 94, 3) := by decide +kernel
theorem d_102_49 : decode (mth 102).2.1 49 = .ok (.iconst 3, 1) := by decide +kernel
theorem d_102_50 : decode (mth 102).2.1 50 = .ok (.if_icmp .gt 7, 3) := by decide +kernel
theorem d_102_53 : decode (mth 102).2.1 53 = .ok (.iconst 1, 1) := by decide +kernel
theorem d_102_54 : decode (mth 102).2.1 54 = .ok (.goto 4, 3) := by decide +kernel
theorem d_102_57 : decode (mth 102).2.1 57 = .ok (.iconst 0, 1) := by decide +kernel
theorem d_102_58 : decode (mth 102).2.1 58 = .ok (.ireturn, 1) := by decide +kernel
/-! 106 PlayedTruth$Stage.drawnBy(LPlayedTruth$Moment;I)I -/
theorem d_106_0 : decode (mth 106).2.1 0 = .ok (.iconst 0, 1) := by decide +kernel
theorem d_106_1 : decode (mth 106).2.1 1 = .ok (.istore_n 3, 1) := by decide +kernel
theorem d_106_2 : decode (mth 106).2.1 2 = .ok (.iconst 0, 1) := by decide +kernel
theorem d_106_3 : decode (mth 106).2.1 3 = .ok (.istore 4, 2) := by decide +kernel
theorem d_106_5 : decode (mth 106).2.1 5 = .ok (.iload 4, 2) := by decide +kernel
theorem d_106_7 : decode (mth 106).2.1 7 = .ok (.aload_n 0, 1) := by decide +kernel
theorem d_106_8 : decode (mth 106).2.1 8 = .ok (.getfield 37, 3) := by decide +kernel
theorem d_106_11 : decode (mth 106).2.1 11 = .ok (.if_icmp .ge 29, 3) := by decide +kernel
theorem d_106_14 : decode (mth 106).2.1 14 = .ok (.iload_n 2, 1) := by decide +kernel
theorem d_106_15 : decode (mth 106).2.1 15 = .ok (.iload 4, 2) := by decide +kernel
theorem d_106_17 : decode (mth 106).2.1 17 = .ok (.ishr, 1) := by decide +kernel
theorem d_106_18 : decode (mth 106).2.1 18 = .ok (.iconst 1, 1) := by decide +kernel
theorem d_106_19 : decode (mth 106).2.1 19 = .ok (.iand, 1) := by decide +kernel
theorem d_106_20 : decode (mth 106).2.1 20 = .ok (.iconst 1, 1) := by decide +kernel
theorem d_106_21 : decode (mth 106).2.1 21 = .ok (.if_icmp .ne 13, 3) := by decide +kernel
theorem d_106_24 : decode (mth 106).2.1 24 = .ok (.iload_n 3, 1) := by decide +kernel
theorem d_106_25 : decode (mth 106).2.1 25 = .ok (.aload_n 0, 1) := by decide +kernel
theorem d_106_26 : decode (mth 106).2.1 26 = .ok (.aload_n 1, 1) := by decide +kernel
theorem d_106_27 : decode (mth 106).2.1 27 = .ok (.iload 4, 2) := by decide +kernel
theorem d_106_29 : decode (mth 106).2.1 29 = .ok (.invokevirtual 92, 3) := by decide +kernel
theorem d_106_32 : decode (mth 106).2.1 32 = .ok (.iadd, 1) := by decide +kernel
theorem d_106_33 : decode (mth 106).2.1 33 = .ok (.istore_n 3, 1) := by decide +kernel
theorem d_106_34 : decode (mth 106).2.1 34 = .ok (.iinc 4 1, 3) := by decide +kernel
theorem d_106_37 : decode (mth 106).2.1 37 = .ok (.goto (-32), 3) := by decide +kernel
theorem d_106_40 : decode (mth 106).2.1 40 = .ok (.iload_n 3, 1) := by decide +kernel
theorem d_106_41 : decode (mth 106).2.1 41 = .ok (.ireturn, 1) := by decide +kernel
/-! 135 PlayedTruth$Stage.goByLot(LPlayedTruth$Moment;)I -/
theorem d_135_0 : decode (mth 135).2.1 0 = .ok (.aload_n 1, 1) := by decide +kernel
theorem d_135_1 : decode (mth 135).2.1 1 = .ok (.aload_n 1, 1) := by decide +kernel
theorem d_135_2 : decode (mth 135).2.1 2 = .ok (.getfield 131, 3) := by decide +kernel
theorem d_135_5 : decode (mth 135).2.1 5 = .ok (.ldc 134, 2) := by decide +kernel
theorem d_135_7 : decode (mth 135).2.1 7 = .ok (.imul, 1) := by decide +kernel
theorem d_135_8 : decode (mth 135).2.1 8 = .ok (.sipush 12345, 3) := by decide +kernel
theorem d_135_11 : decode (mth 135).2.1 11 = .ok (.iadd, 1) := by decide +kernel
theorem d_135_12 : decode (mth 135).2.1 12 = .ok (.putfield 131, 3) := by decide +kernel
theorem d_135_15 : decode (mth 135).2.1 15 = .ok (.aload_n 0, 1) := by decide +kernel
theorem d_135_16 : decode (mth 135).2.1 16 = .ok (.aload_n 1, 1) := by decide +kernel
theorem d_135_17 : decode (mth 135).2.1 17 = .ok (.aload_n 1, 1) := by decide +kernel
theorem d_135_18 : decode (mth 135).2.1 18 = .ok (.getfield 131, 3) := by decide +kernel
theorem d_135_21 : decode (mth 135).2.1 21 = .ok (.bipush 16, 2) := by decide +kernel
theorem d_135_23 : decode (mth 135).2.1 23 = .ok (.iushr, 1) := by decide +kernel
theorem d_135_24 : decode (mth 135).2.1 24 = .ok (.aload_n 0, 1) := by decide +kernel
theorem d_135_25 : decode (mth 135).2.1 25 = .ok (.getfield 37, 3) := by decide +kernel
theorem d_135_28 : decode (mth 135).2.1 28 = .ok (.iconst 1, 1) := by decide +kernel
theorem d_135_29 : decode (mth 135).2.1 29 = .ok (.iadd, 1) := by decide +kernel
theorem d_135_30 : decode (mth 135).2.1 30 = .ok (.irem, 1) := by decide +kernel
theorem d_135_31 : decode (mth 135).2.1 31 = .ok (.invokevirtual 135, 3) := by decide +kernel
theorem d_135_34 : decode (mth 135).2.1 34 = .ok (.ireturn, 1) := by decide +kernel
/-! 145 PlayedTruth$Stage.isAct(I)Z -/
theorem d_145_0 : decode (mth 145).2.1 0 = .ok (.iload_n 1, 1) := by decide +kernel
theorem d_145_1 : decode (mth 145).2.1 1 = .ok (.ifCond .lt 15, 3) := by decide +kernel
theorem d_145_4 : decode (mth 145).2.1 4 = .ok (.iload_n 1, 1) := by decide +kernel
theorem d_145_5 : decode (mth 145).2.1 5 = .ok (.aload_n 0, 1) := by decide +kernel
theorem d_145_6 : decode (mth 145).2.1 6 = .ok (.getfield 37, 3) := by decide +kernel
theorem d_145_9 : decode (mth 145).2.1 9 = .ok (.if_icmp .gt 7, 3) := by decide +kernel
theorem d_145_12 : decode (mth 145).2.1 12 = .ok (.iconst 1, 1) := by decide +kernel
theorem d_145_13 : decode (mth 145).2.1 13 = .ok (.goto 4, 3) := by decide +kernel
theorem d_145_16 : decode (mth 145).2.1 16 = .ok (.iconst 0, 1) := by decide +kernel
theorem d_145_17 : decode (mth 145).2.1 17 = .ok (.ireturn, 1) := by decide +kernel
/-! 172 PlayedTruth$Stage.copyFrom(LPlayedTruth$Stage;)V -/
theorem d_172_0 : decode (mth 172).2.1 0 = .ok (.aload_n 1, 1) := by decide +kernel
theorem d_172_1 : decode (mth 172).2.1 1 = .ok (.getfield 9, 3) := by decide +kernel
theorem d_172_4 : decode (mth 172).2.1 4 = .ok (.iconst 0, 1) := by decide +kernel
theorem d_172_5 : decode (mth 172).2.1 5 = .ok (.aload_n 0, 1) := by decide +kernel
theorem d_172_6 : decode (mth 172).2.1 6 = .ok (.getfield 9, 3) := by decide +kernel
theorem d_172_9 : decode (mth 172).2.1 9 = .ok (.iconst 0, 1) := by decide +kernel
theorem d_172_10 : decode (mth 172).2.1 10 = .ok (.bipush 6, 2) := by decide +kernel
theorem d_172_12 : decode (mth 172).2.1 12 = .ok (.invokestatic 44, 3) := by decide +kernel
theorem d_172_15 : decode (mth 172).2.1 15 = .ok (.aload_n 1, 1) := by decide +kernel
theorem d_172_16 : decode (mth 172).2.1 16 = .ok (.getfield 15, 3) := by decide +kernel
theorem d_172_19 : decode (mth 172).2.1 19 = .ok (.iconst 0, 1) := by decide +kernel
theorem d_172_20 : decode (mth 172).2.1 20 = .ok (.aload_n 0, 1) := by decide +kernel
theorem d_172_21 : decode (mth 172).2.1 21 = .ok (.getfield 15, 3) := by decide +kernel
theorem d_172_24 : decode (mth 172).2.1 24 = .ok (.iconst 0, 1) := by decide +kernel
theorem d_172_25 : decode (mth 172).2.1 25 = .ok (.bipush 6, 2) := by decide +kernel
theorem d_172_27 : decode (mth 172).2.1 27 = .ok (.invokestatic 44, 3) := by decide +kernel
theorem d_172_30 : decode (mth 172).2.1 30 = .ok (.aload_n 1, 1) := by decide +kernel
theorem d_172_31 : decode (mth 172).2.1 31 = .ok (.getfield 18, 3) := by decide +kernel
theorem d_172_34 : decode (mth 172).2.1 34 = .ok (.iconst 0, 1) := by decide +kernel
theorem d_172_35 : decode (mth 172).2.1 35 = .ok (.aload_n 0, 1) := by decide +kernel
theorem d_172_36 : decode (mth 172).2.1 36 = .ok (.getfield 18, 3) := by decide +kernel
theorem d_172_39 : decode (mth 172).2.1 39 = .ok (.iconst 0, 1) := by decide +kernel
theorem d_172_40 : decode (mth 172).2.1 40 = .ok (.bipush 16, 2) := by decide +kernel
theorem d_172_42 : decode (mth 172).2.1 42 = .ok (.invokestatic 44, 3) := by decide +kernel
theorem d_172_45 : decode (mth 172).2.1 45 = .ok (.aload_n 1, 1) := by decide +kernel
theorem d_172_46 : decode (mth 172).2.1 46 = .ok (.getfield 21, 3) := by decide +kernel
theorem d_172_49 : decode (mth 172).2.1 49 = .ok (.iconst 0, 1) := by decide +kernel
theorem d_172_50 : decode (mth 172).2.1 50 = .ok (.aload_n 0, 1) := by decide +kernel
theorem d_172_51 : decode (mth 172).2.1 51 = .ok (.getfield 21, 3) := by decide +kernel
theorem d_172_54 : decode (mth 172).2.1 54 = .ok (.iconst 0, 1) := by decide +kernel
theorem d_172_55 : decode (mth 172).2.1 55 = .ok (.bipush 6, 2) := by decide +kernel
theorem d_172_57 : decode (mth 172).2.1 57 = .ok (.invokestatic 44, 3) := by decide +kernel
theorem d_172_60 : decode (mth 172).2.1 60 = .ok (.aload_n 1, 1) := by decide +kernel
theorem d_172_61 : decode (mth 172).2.1 61 = .ok (.getfield 24, 3) := by decide +kernel
theorem d_172_64 : decode (mth 172).2.1 64 = .ok (.iconst 0, 1) := by decide +kernel
theorem d_172_65 : decode (mth 172).2.1 65 = .ok (.aload_n 0, 1) := by decide +kernel
theorem d_172_66 : decode (mth 172).2.1 66 = .ok (.getfield 24, 3) := by decide +kernel
theorem d_172_69 : decode (mth 172).2.1 69 = .ok (.iconst 0, 1) := by decide +kernel
theorem d_172_70 : decode (mth 172).2.1 70 = .ok (.bipush 6, 2) := by decide +kernel
theorem d_172_72 : decode (mth 172).2.1 72 = .ok (.invokestatic 44, 3) := by decide +kernel
theorem d_172_75 : decode (mth 172).2.1 75 = .ok (.aload_n 0, 1) := by decide +kernel
theorem d_172_76 : decode (mth 172).2.1 76 = .ok (.getfield 30, 3) := by decide +kernel
theorem d_172_79 : decode (mth 172).2.1 79 = .ok (.aload_n 1, 1) := by decide +kernel
theorem d_172_80 : decode (mth 172).2.1 80 = .ok (.getfield 30, 3) := by decide +kernel
theorem d_172_83 : decode (mth 172).2.1 83 = .ok (.invokevirtual 50, 3) := by decide +kernel
theorem d_172_86 : decode (mth 172).2.1 86 = .ok (.aload_n 0, 1) := by decide +kernel
theorem d_172_87 : decode (mth 172).2.1 87 = .ok (.aload_n 1, 1) := by decide +kernel
theorem d_172_88 : decode (mth 172).2.1 88 = .ok (.getfield 37, 3) := by decide +kernel
theorem d_172_91 : decode (mth 172).2.1 91 = .ok (.putfield 37, 3) := by decide +kernel
theorem d_172_94 : decode (mth 172).2.1 94 = .ok (.aload_n 0, 1) := by decide +kernel
theorem d_172_95 : decode (mth 172).2.1 95 = .ok (.aload_n 1, 1) := by decide +kernel
theorem d_172_96 : decode (mth 172).2.1 96 = .ok (.getfield 41, 3) := by decide +kernel
theorem d_172_99 : decode (mth 172).2.1 99 = .ok (.putfield 41, 3) := by decide +kernel
theorem d_172_102 : decode (mth 172).2.1 102 = .ok (.return_, 1) := by decide +kernel
