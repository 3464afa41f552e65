/-! 42 PlayedTruth$RuleReader.hasRoomFor(I)Z -/
theorem d_42_0 : decode (mth 42).2.1 0 = .ok (.aload_n 0, 1) := by decide +kernel
theorem d_42_1 : decode (mth 42).2.1 1 = .ok (.getfield 13, 3) := by decide +kernel
theorem d_42_4 : decode (mth 42).2.1 4 = .ok (.iload_n 1, 1) := by decide +kernel
theorem d_42_5 : decode (mth 42).2.1 5 = .ok (.iadd, 1) := by decide +kernel
theorem d_42_6 : decode (mth 42).2.1 6 = .ok (.sipush 200, 3) := by decide +kernel
theorem d_42_9 : decode (mth 42).2.1 9 = .ok (.if_icmp .gt 7, 3) := by decide +kernel
theorem d_42_12 : decode (mth 42).2.1 12 = .ok (.iconst 1, 1) := by decide +kernel
theorem d_42_13 : decode (mth 42).2.1 13 = .ok (.goto 4, 3) := by decide +kernel
theorem d_42_16 : decode (mth 42).2.1 16 = .ok (.iconst 0, 1) := by decide +kernel
theorem d_42_17 : decode (mth 42).2.1 17 = .ok (.ireturn, 1) := by decide +kernel
/-! 43 PlayedTruth$RuleReader.take(JI)V -/
theorem d_43_0 : decode (mth 43).2.1 0 = .ok (.iconst 0, 1) := by decide +kernel
theorem d_43_1 : decode (mth 43).2.1 1 = .ok (.istore 4, 2) := by decide +kernel
theorem d_43_3 : decode (mth 43).2.1 3 = .ok (.iload 4, 2) := by decide +kernel
theorem d_43_5 : decode (mth 43).2.1 5 = .ok (.iload_n 3, 1) := by decide +kernel
theorem d_43_6 : decode (mth 43).2.1 6 = .ok (.if_icmp .ge 47, 3) := by decide +kernel
theorem d_43_9 : decode (mth 43).2.1 9 = .ok (.aload_n 0, 1) := by decide +kernel
theorem d_43_10 : decode (mth 43).2.1 10 = .ok (.getfield 13, 3) := by decide +kernel
theorem d_43_13 : decode (mth 43).2.1 13 = .ok (.sipush 200, 3) := by decide +kernel
theorem d_43_16 : decode (mth 43).2.1 16 = .ok (.if_icmp .ge 37, 3) := by decide +kernel
theorem d_43_19 : decode (mth 43).2.1 19 = .ok (.aload_n 0, 1) := by decide +kernel
theorem d_43_20 : decode (mth 43).2.1 20 = .ok (.getfield 9, 3) := by decide +kernel
theorem d_43_23 : decode (mth 43).2.1 23 = .ok (.aload_n 0, 1) := by decide +kernel
theorem d_43_24 : decode (mth 43).2.1 24 = .ok (.dup, 1) := by decide +kernel
theorem d_43_25 : decode (mth 43).2.1 25 = .ok (.getfield 13, 3) := by decide +kernel
theorem d_43_28 : decode (mth 43).2.1 28 = .ok (.dup_x1, 1) := by decide +kernel
theorem d_43_29 : decode (mth 43).2.1 29 = .ok (.iconst 1, 1) := by decide +kernel
theorem d_43_30 : decode (mth 43).2.1 30 = .ok (.iadd, 1) := by decide +kernel
theorem d_43_31 : decode (mth 43).2.1 31 = .ok (.putfield 13, 3) := by decide +kernel
theorem d_43_34 : decode (mth 43).2.1 34 = .ok (.lload_n 1, 1) := by decide +kernel
theorem d_43_35 : decode (mth 43).2.1 35 = .ok (.bipush 8, 2) := by decide +kernel
theorem d_43_37 : decode (mth 43).2.1 37 = .ok (.iload 4, 2) := by decide +kernel
theorem d_43_39 : decode (mth 43).2.1 39 = .ok (.imul, 1) := by decide +kernel
theorem d_43_40 : decode (mth 43).2.1 40 = .ok (.lushr, 1) := by decide +kernel
theorem d_43_41 : decode (mth 43).2.1 41 = .ok (.ldc2_w 42, 3) := by decide +kernel
theorem d_43_44 : decode (mth 43).2.1 44 = .ok (.land, 1) := by decide +kernel
theorem d_43_45 : decode (mth 43).2.1 45 = .ok (.l2i, 1) := by decide +kernel
theorem d_43_46 : decode (mth 43).2.1 46 = .ok (.iastore, 1) := by decide +kernel
theorem d_43_47 : decode (mth 43).2.1 47 = .ok (.iinc 4 1, 3) := by decide +kernel
theorem d_43_50 : decode (mth 43).2.1 50 = .ok (.goto (-47), 3) := by decide +kernel
theorem d_43_53 : decode (mth 43).2.1 53 = .ok (.return_, 1) := by decide +kernel
/-! 45 PlayedTruth$RuleReader.readAndUseUp()Z -/
theorem d_45_0 : decode (mth 45).2.1 0 = .ok (.aload_n 0, 1) := by decide +kernel
theorem d_45_1 : decode (mth 45).2.1 1 = .ok (.invokevirtual 44, 3) := by decide +kernel
theorem d_45_4 : decode (mth 45).2.1 4 = .ok (.aload_n 0, 1) := by decide +kernel
theorem d_45_5 : decode (mth 45).2.1 5 = .ok (.getfield 20, 3) := by decide +kernel
theorem d_45_8 : decode (mth 45).2.1 8 = .ok (.invokevirtual 47, 3) := by decide +kernel
theorem d_45_11 : decode (mth 45).2.1 11 = .ok (.aload_n 0, 1) := by decide +kernel
theorem d_45_12 : decode (mth 45).2.1 12 = .ok (.iconst 0, 1) := by decide +kernel
theorem d_45_13 : decode (mth 45).2.1 13 = .ok (.putfield 36, 3) := by decide +kernel
theorem d_45_16 : decode (mth 45).2.1 16 = .ok (.aload_n 0, 1) := by decide +kernel
theorem d_45_17 : decode (mth 45).2.1 17 = .ok (.aload_n 0, 1) := by decide +kernel
theorem d_45_18 : decode (mth 45).2.1 18 = .ok (.getfield 27, 3) := by decide +kernel
theorem d_45_21 : decode (mth 45).2.1 21 = .ok (.iconst 0, 1) := by decide +kernel
theorem d_45_22 : decode (mth 45).2.1 22 = .ok (.iaload, 1) := by decide +kernel
theorem d_45_23 : decode (mth 45).2.1 23 = .ok (.putfield 39, 3) := by decide +kernel
theorem d_45_26 : decode (mth 45).2.1 26 = .ok (.iconst 1, 1) := by decide +kernel
theorem d_45_27 : decode (mth 45).2.1 27 = .ok (.istore_n 1, 1) := by decide +kernel
theorem d_45_28 : decode (mth 45).2.1 28 = .ok (.iconst 0, 1) := by decide +kernel
theorem d_45_29 : decode (mth 45).2.1 29 = .ok (.istore_n 2, 1) := by decide +kernel
theorem d_45_30 : decode (mth 45).2.1 30 = .ok (.iload_n 2, 1) := by decide +kernel
theorem d_45_31 : decode (mth 45).2.1 31 = .ok (.bipush 8, 2) := by decide +kernel
theorem d_45_33 : decode (mth 45).2.1 33 = .ok (.if_icmp .gt 27, 3) := by decide +kernel
theorem d_45_36 : decode (mth 45).2.1 36 = .ok (.iload_n 1, 1) := by decide +kernel
theorem d_45_37 : decode (mth 45).2.1 37 = .ok (.ifCond .eq 23, 3) := by decide +kernel
theorem d_45_40 : decode (mth 45).2.1 40 = .ok (.aload_n 0, 1) := by decide +kernel
theorem d_45_41 : decode (mth 45).2.1 41 = .ok (.getfield 39, 3) := by decide +kernel
theorem d_45_44 : decode (mth 45).2.1 44 = .ok (.bipush 27, 2) := by decide +kernel
theorem d_45_46 : decode (mth 45).2.1 46 = .ok (.if_icmp .eq 14, 3) := by decide +kernel
theorem d_45_49 : decode (mth 45).2.1 49 = .ok (.aload_n 0, 1) := by decide +kernel
theorem d_45_50 : decode (mth 45).2.1 50 = .ok (.invokevirtual 50, 3) := by decide +kernel
theorem d_45_53 : decode (mth 45).2.1 53 = .ok (.istore_n 1, 1) := by decide +kernel
theorem d_45_54 : decode (mth 45).2.1 54 = .ok (.iinc 2 1, 3) := by decide +kernel
theorem d_45_57 : decode (mth 45).2.1 57 = .ok (.goto (-27), 3) := by decide +kernel
theorem d_45_60 : decode (mth 45).2.1 60 = .ok (.aload_n 0, 1) := by decide +kernel
theorem d_45_61 : decode (mth 45).2.1 61 = .ok (.iconst 0, 1) := by decide +kernel
theorem d_45_62 : decode (mth 45).2.1 62 = .ok (.putfield 13, 3) := by decide +kernel
theorem d_45_65 : decode (mth 45).2.1 65 = .ok (.iload_n 1, 1) := by decide +kernel
theorem d_45_66 : decode (mth 45).2.1 66 = .ok (.ireturn, 1) := by decide +kernel
/-! 46 PlayedTruth$RuleReader.split()V -/
theorem d_46_0 : decode (mth 46).2.1 0 = .ok (.iconst 0, 1) := by decide +kernel
theorem d_46_1 : decode (mth 46).2.1 1 = .ok (.istore_n 1, 1) := by decide +kernel
theorem d_46_2 : decode (mth 46).2.1 2 = .ok (.iconst 0, 1) := by decide +kernel
theorem d_46_3 : decode (mth 46).2.1 3 = .ok (.istore_n 2, 1) := by decide +kernel
theorem d_46_4 : decode (mth 46).2.1 4 = .ok (.iload_n 2, 1) := by decide +kernel
theorem d_46_5 : decode (mth 46).2.1 5 = .ok (.aload_n 0, 1) := by decide +kernel
theorem d_46_6 : decode (mth 46).2.1 6 = .ok (.getfield 13, 3) := by decide +kernel
theorem d_46_9 : decode (mth 46).2.1 9 = .ok (.if_icmp .ge 82, 3) := by decide +kernel
theorem d_46_12 : decode (mth 46).2.1 12 = .ok (.aload_n 0, 1) := by decide +kernel
theorem d_46_13 : decode (mth 46).2.1 13 = .ok (.getfield 9, 3) := by decide +kernel
theorem d_46_16 : decode (mth 46).2.1 16 = .ok (.iload_n 2, 1) := by decide +kernel
theorem d_46_17 : decode (mth 46).2.1 17 = .ok (.iaload, 1) := by decide +kernel
theorem d_46_18 : decode (mth 46).2.1 18 = .ok (.bipush 32, 2) := by decide +kernel
theorem d_46_20 : decode (mth 46).2.1 20 = .ok (.if_icmp .ne 6, 3) := by decide +kernel
theorem d_46_23 : decode (mth 46).2.1 23 = .ok (.goto 62, 3) := by decide +kernel
theorem d_46_26 : decode (mth 46).2.1 26 = .ok (.aload_n 0, 1) := by decide +kernel
theorem d_46_27 : decode (mth 46).2.1 27 = .ok (.iload_n 2, 1) := by decide +kernel
theorem d_46_28 : decode (mth 46).2.1 28 = .ok (.invokevirtual 54, 3) := by decide +kernel
theorem d_46_31 : decode (mth 46).2.1 31 = .ok (.istore_n 3, 1) := by decide +kernel
theorem d_46_32 : decode (mth 46).2.1 32 = .ok (.aload_n 0, 1) := by decide +kernel
theorem d_46_33 : decode (mth 46).2.1 33 = .ok (.getfield 27, 3) := by decide +kernel
theorem d_46_36 : decode (mth 46).2.1 36 = .ok (.iload_n 1, 1) := by decide +kernel
theorem d_46_37 : decode (mth 46).2.1 37 = .ok (.aload_n 0, 1) := by decide +kernel
theorem d_46_38 : decode (mth 46).2.1 38 = .ok (.iload_n 2, 1) := by decide +kernel
theorem d_46_39 : decode (mth 46).2.1 39 = .ok (.iload_n 3, 1) := by decide +kernel
theorem d_46_40 : decode (mth 46).2.1 40 = .ok (.invokevirtual 58, 3) := by decide +kernel
theorem d_46_43 : decode (mth 46).2.1 43 = .ok (.iastore, 1) := by decide +kernel
theorem d_46_44 : decode (mth 46).2.1 44 = .ok (.aload_n 0, 1) := by decide +kernel
theorem d_46_45 : decode (mth 46).2.1 45 = .ok (.getfield 30, 3) := by decide +kernel
theorem d_46_48 : decode (mth 46).2.1 48 = .ok (.iload_n 1, 1) := by decide +kernel
theorem d_46_49 : decode (mth 46).2.1 49 = .ok (.iload_n 2, 1) := by decide +kernel
theorem d_46_50 : decode (mth 46).2.1 50 = .ok (.iastore, 1) := by decide +kernel
theorem d_46_51 : decode (mth 46).2.1 51 = .ok (.aload_n 0, 1) := by decide +kernel
theorem d_46_52 : decode (mth 46).2.1 52 = .ok (.getfield 33, 3) := by decide +kernel
theorem d_46_55 : decode (mth 46).2.1 55 = .ok (.iload_n 1, 1) := by decide +kernel
theorem d_46_56 : decode (mth 46).2.1 56 = .ok (.aload_n 0, 1) := by decide +kernel
theorem d_46_57 : decode (mth 46).2.1 57 = .ok (.getfield 27, 3) := by decide +kernel
theorem d_46_60 : decode (mth 46).2.1 60 = .ok (.iload_n 1, 1) := by decide +kernel
theorem d_46_61 : decode (mth 46).2.1 61 = .ok (.iaload, 1) := by decide +kernel
theorem d_46_62 : decode (mth 46).2.1 62 = .ok (.bipush 26, 2) := by decide +kernel
theorem d_46_64 : decode (mth 46).2.1 64 = .ok (.if_icmp .ne 12, 3) := by decide +kernel
theorem d_46_67 : decode (mth 46).2.1 67 = .ok (.aload_n 0, 1) := by decide +kernel
theorem d_46_68 : decode (mth 46).2.1 68 = .ok (.iload_n 2, 1) := by decide +kernel
theorem d_46_69 : decode (mth 46).2.1 69 = .ok (.iload_n 3, 1) := by decide +kernel
theorem d_46_70 : decode (mth 46).2.1 70 = .ok (.invokevirtual 62, 3) := by decide +kernel
theorem d_46_73 : decode (mth 46).2.1 73 = .ok (.goto 4, 3) := by decide +kernel
theorem d_46_76 : decode (mth 46).2.1 76 = .ok (.iconst 0, 1) := by decide +kernel
theorem d_46_77 : decode (mth 46).2.1 77 = .ok (.iastore, 1) := by decide +kernel
theorem d_46_78 : decode (mth 46).2.1 78 = .ok (.iinc 1 1, 3) := by decide +kernel
theorem d_46_81 : decode (mth 46).2.1 81 = .ok (.iload_n 3, 1) := by decide +kernel
theorem d_46_82 : decode (mth 46).2.1 82 = .ok (.iconst 1, 1) := by decide +kernel
theorem d_46_83 : decode (mth 46).2.1 83 = .ok (.isub, 1) := by decide +kernel
theorem d_46_84 : decode (mth 46).2.1 84 = .ok (.istore_n 2, 1) := by decide +kernel
theorem d_46_85 : decode (mth 46).2.1 85 = .ok (.iinc 2 1, 3) := by decide +kernel
theorem d_46_88 : decode (mth 46).2.1 88 = .ok (.goto (-84), 3) := by decide +kernel
theorem d_46_91 : decode (mth 46).2.1 91 = .ok (.aload_n 0, 1) := by decide +kernel
theorem d_46_92 : decode (mth 46).2.1 92 = .ok (.getfield 27, 3) := by decide +kernel
theorem d_46_95 : decode (mth 46).2.1 95 = .ok (.iload_n 1, 1) := by decide +kernel
theorem d_46_96 : decode (mth 46).2.1 96 = .ok (.bipush 27, 2) := by decide +kernel
theorem d_46_98 : decode (mth 46).2.1 98 = .ok (.iastore, 1) := by decide +kernel
theorem d_46_99 : decode (mth 46).2.1 99 = .ok (.aload_n 0, 1) := by decide +kernel
theorem d_46_100 : decode (mth 46).2.1 100 = .ok (.getfield 30, 3) := by decide +kernel
theorem d_46_103 : decode (mth 46).2.1 103 = .ok (.iload_n 1, 1) := by decide +kernel
theorem d_46_104 : decode (mth 46).2.1 104 = .ok (.aload_n 0, 1) := by decide +kernel
theorem d_46_105 : decode (mth 46).2.1 105 = .ok (.getfield 13, 3) := by decide +kernel
theorem d_46_108 : decode (mth 46).2.1 108 = .ok (.iastore, 1) := by decide +kernel
theorem d_46_109 : decode (mth 46).2.1 109 = .ok (.return_, 1) := by decide +kernel
/-! 47 PlayedTruth$RuleReader.endOfToken(I)I -/
theorem d_47_0 : decode (mth 47).2.1 0 = .ok (.iload_n 1, 1) := by decide +kernel
theorem d_47_1 : decode (mth 47).2.1 1 = .ok (.iconst 1, 1) := by decide +kernel
theorem d_47_2 : decode (mth 47).2.1 2 = .ok (.iadd, 1) := by decide +kernel
theorem d_47_3 : decode (mth 47).2.1 3 = .ok (.istore_n 2, 1) := by decide +kernel
theorem d_47_4 : decode (mth 47).2.1 4 = .ok (.aload_n 0, 1) := by decide +kernel
theorem d_47_5 : decode (mth 47).2.1 5 = .ok (.getfield 9, 3) := by decide +kernel
theorem d_47_8 : decode (mth 47).2.1 8 = .ok (.iload_n 1, 1) := by decide +kernel
theorem d_47_9 : decode (mth 47).2.1 9 = .ok (.iaload, 1) := by decide +kernel
theorem d_47_10 : decode (mth 47).2.1 10 = .ok (.invokestatic 65, 3) := by decide +kernel
theorem d_47_13 : decode (mth 47).2.1 13 = .ok (.ifCond .eq 29, 3) := by decide +kernel
theorem d_47_16 : decode (mth 47).2.1 16 = .ok (.iload_n 2, 1) := by decide +kernel
theorem d_47_17 : decode (mth 47).2.1 17 = .ok (.aload_n 0, 1) := by decide +kernel
theorem d_47_18 : decode (mth 47).2.1 18 = .ok (.getfield 13, 3) := by decide +kernel
theorem d_47_21 : decode (mth 47).2.1 21 = .ok (.if_icmp .ge 59, 3) := by decide +kernel
theorem d_47_24 : decode (mth 47).2.1 24 = .ok (.aload_n 0, 1) := by decide +kernel
theorem d_47_25 : decode (mth 47).2.1 25 = .ok (.getfield 9, 3) := by decide +kernel
theorem d_47_28 : decode (mth 47).2.1 28 = .ok (.iload_n 2, 1) := by decide +kernel
theorem d_47_29 : decode (mth 47).2.1 29 = .ok (.iaload, 1) := by decide +kernel
theorem d_47_30 : decode (mth 47).2.1 30 = .ok (.invokestatic 65, 3) := by decide +kernel
theorem d_47_33 : decode (mth 47).2.1 33 = .ok (.ifCond .eq 47, 3) := by decide +kernel
theorem d_47_36 : decode (mth 47).2.1 36 = .ok (.iinc 2 1, 3) := by decide +kernel
theorem d_47_39 : decode (mth 47).2.1 39 = .ok (.goto (-23), 3) := by decide +kernel
theorem d_47_42 : decode (mth 47).2.1 42 = .ok (.aload_n 0, 1) := by decide +kernel
theorem d_47_43 : decode (mth 47).2.1 43 = .ok (.getfield 9, 3) := by decide +kernel
theorem d_47_46 : decode (mth 47).2.1 46 = .ok (.iload_n 1, 1) := by decide +kernel
theorem d_47_47 : decode (mth 47).2.1 47 = .ok (.iaload, 1) := by decide +kernel
theorem d_47_48 : decode (mth 47).2.1 48 = .ok (.invokestatic 69, 3) := by decide +kernel
theorem d_47_51 : decode (mth 47).2.1 51 = .ok (.ifCond .eq 29, 3) := by decide +kernel
theorem d_47_54 : decode (mth 47).2.1 54 = .ok (.iload_n 2, 1) := by decide +kernel
theorem d_47_55 : decode (mth 47).2.1 55 = .ok (.aload_n 0, 1) := by decide +kernel
theorem d_47_56 : decode (mth 47).2.1 56 = .ok (.getfield 13, 3) := by decide +kernel
theorem d_47_59 : decode (mth 47).2.1 59 = .ok (.if_icmp .ge 21, 3) := by decide +kernel
theorem d_47_62 : decode (mth 47).2.1 62 = .ok (.aload_n 0, 1) := by decide +kernel
theorem d_47_63 : decode (mth 47).2.1 63 = .ok (.getfield 9, 3) := by decide +kernel
theorem d_47_66 : decode (mth 47).2.1 66 = .ok (.iload_n 2, 1) := by decide +kernel
theorem d_47_67 : decode (mth 47).2.1 67 = .ok (.iaload, 1) := by decide +kernel
theorem d_47_68 : decode (mth 47).2.1 68 = .ok (.invokestatic 69, 3) := by decide +kernel
theorem d_47_71 : decode (mth 47).2.1 71 = .ok (.ifCond .eq 9, 3) := by decide +kernel
theorem d_47_74 : decode (mth 47).2.1 74 = .ok (.iinc 2 1, 3) := by decide +kernel
theorem d_47_77 : decode (mth 47).2.1 77 = .ok (.goto (-23), 3) := by decide +kernel
theorem d_47_80 : decode (mth 47).2.1 80 = .ok (.iload_n 2, 1) := by decide +kernel
theorem d_47_81 : decode (mth 47).2.1 81 = .ok (.ireturn, 1) := by decide +kernel
/-! 48 PlayedTruth$RuleReader.isLetter(I)Z -/
theorem d_48_0 : decode (mth 48).2.1 0 = .ok (.iload_n 0, 1) := by decide +kernel
theorem d_48_1 : decode (mth 48).2.1 1 = .ok (.bipush 97, 2) := by decide +kernel
theorem d_48_3 : decode (mth 48).2.1 3 = .ok (.if_icmp .lt 13, 3) := by decide +kernel
theorem d_48_6 : decode (mth 48).2.1 6 = .ok (.iload_n 0, 1) := by decide +kernel
theorem d_48_7 : decode (mth 48).2.1 7 = .ok (.bipush 122, 2) := by decide +kernel
theorem d_48_9 : decode (mth 48).2.1 9 = .ok (.if_icmp .gt 7, 3) := by decide +kernel
theorem d_48_12 : decode (mth 48).2.1 12 = .ok (.iconst 1, 1) := by decide +kernel
theorem d_48_13 : decode (mth 48).2.1 13 = .ok (.goto 4, 3) := by decide +kernel
theorem d_48_16 : decode (mth 48).2.1 16 = .ok (.iconst 0, 1) := by decide +kernel
theorem d_48_17 : decode (mth 48).2.1 17 = .ok (.ireturn, 1) := by decide +kernel
/-! 49 PlayedTruth$RuleReader.isDigit(I)Z -/
theorem d_49_0 : decode (mth 49).2.1 0 = .ok (.iload_n 0, 1) := by decide +kernel
theorem d_49_1 : decode (mth 49).2.1 1 = .ok (.bipush 48, 2) := by decide +kernel
theorem d_49_3 : decode (mth 49).2.1 3 = .ok (.if_icmp .lt 13, 3) := by decide +kernel
theorem d_49_6 : decode (mth 49).2.1 6 = .ok (.iload_n 0, 1) := by decide +kernel
theorem d_49_7 : decode (mth 49).2.1 7 = .ok (.bipush 57, 2) := by decide +kernel
theorem d_49_9 : decode (mth 49).2.1 9 = .ok (.if_icmp .gt 7, 3) := by decide +kernel
theorem d_49_12 : decode (mth 49).2.1 12 = .ok (.iconst 1, 1) := by decide +kernel
theorem d_49_13 : decode (mth 49).2.1 13 = .ok (.goto 4, 3) := by decide +kernel
theorem d_49_16 : decode (mth 49).2.1 16 = .ok (.iconst 0, 1) := by decide +kernel
theorem d_49_17 : decode (mth 49).2.1 17 = .ok (.ireturn, 1) := by decide +kernel
/-! 50 PlayedTruth$RuleReader.tokenOf(II)I -/
theorem d_50_0 : decode (mth 50).2.1 0 = .ok (.aload_n 0, 1) := by decide +kernel
theorem d_50_1 : decode (mth 50).2.1 1 = .ok (.getfield 9, 3) := by decide +kernel
theorem d_50_4 : decode (mth 50).2.1 4 = .ok (.iload_n 1, 1) := by decide +kernel
theorem d_50_5 : decode (mth 50).2.1 5 = .ok (.iaload, 1) := by decide +kernel
theorem d_50_6 : decode (mth 50).2.1 6 = .ok (.invokestatic 65, 3) := by decide +kernel
theorem d_50_9 : decode (mth 50).2.1 9 = .ok (.ifCond .eq 10, 3) := by decide +kernel
theorem d_50_12 : decode (mth 50).2.1 12 = .ok (.aload_n 0, 1) := by decide +kernel
theorem d_50_13 : decode (mth 50).2.1 13 = .ok (.iload_n 1, 1) := by decide +kernel
theorem d_50_14 : decode (mth 50).2.1 14 = .ok (.iload_n 2, 1) := by decide +kernel
theorem d_50_15 : decode (mth 50).2.1 15 = .ok (.invokevirtual 72, 3) := by decide +kernel
theorem d_50_18 : decode (mth 50).2.1 18 = .ok (.ireturn, 1) := by decide +kernel
theorem d_50_19 : decode (mth 50).2.1 19 = .ok (.aload_n 0, 1) := by decide +kernel
theorem d_50_20 : decode (mth 50).2.1 20 = .ok (.getfield 9, 3) := by decide +kernel
theorem d_50_23 : decode (mth 50).2.1 23 = .ok (.iload_n 1, 1) := by decide +kernel
theorem d_50_24 : decode (mth 50).2.1 24 = .ok (.iaload, 1) := by decide +kernel
theorem d_50_25 : decode (mth 50).2.1 25 = .ok (.invokestatic 69, 3) := by decide +kernel
theorem d_50_28 : decode (mth 50).2.1 28 = .ok (.ifCond .eq 18, 3) := by decide +kernel
theorem d_50_31 : decode (mth 50).2.1 31 = .ok (.iload_n 2, 1) := by decide +kernel
theorem d_50_32 : decode (mth 50).2.1 32 = .ok (.iload_n 1, 1) := by decide +kernel
theorem d_50_33 : decode (mth 50).2.1 33 = .ok (.isub, 1) := by decide +kernel
theorem d_50_34 : decode (mth 50).2.1 34 = .ok (.iconst 4, 1) := by decide +kernel
theorem d_50_35 : decode (mth 50).2.1 35 = .ok (.if_icmp .gt 8, 3) := by decide +kernel
theorem d_50_38 : decode (mth 50).2.1 38 = .ok (.bipush 26, 2) := by decide +kernel
theorem d_50_40 : decode (mth 50).2.1 40 = .ok (.goto 5, 3) := by decide +kernel
theorem d_50_43 : decode (mth 50).2.1 43 = .ok (.bipush 28, 2) := by decide +kernel
theorem d_50_45 : decode (mth 50).2.1 45 = .ok (.ireturn, 1) := by decide +kernel
theorem d_50_46 : decode (mth 50).2.1 46 = .ok (.aload_n 0, 1) := by decide +kernel
theorem d_50_47 : decode (mth 50).2.1 47 = .ok (.getfield 9, 3) := by decide +kernel
theorem d_50_50 : decode (mth 50).2.1 50 = .ok (.iload_n 1, 1) := by decide +kernel
theorem d_50_51 : decode (mth 50).2.1 51 = .ok (.iaload, 1) := by decide +kernel
theorem d_50_52 : decode (mth 50).2.1 52 = .ok (.lookupswitch 78 #[(40, 69), (41, 72), (59, 75), (60, 60), (61, 63), (62, 66)], 60) := by decide +kernel
theorem d_50_112 : decode (mth 50).2.1 112 = .ok (.bipush 20, 2) := by decide +kernel
theorem d_50_114 : decode (mth 50).2.1 114 = .ok (.ireturn, 1) := by decide +kernel
theorem d_50_115 : decode (mth 50).2.1 115 = .ok (.bipush 21, 2) := by decide +kernel
theorem d_50_117 : decode (mth 50).2.1 117 = .ok (.ireturn, 1) := by decide +kernel
theorem d_50_118 : decode (mth 50).2.1 118 = .ok (.bipush 22, 2) := by decide +kernel
theorem d_50_120 : decode (mth 50).2.1 120 = .ok (.ireturn, 1) := by decide +kernel
theorem d_50_121 : decode (mth 50).2.1 121 = .ok (.bipush 23, 2) := by decide +kernel
theorem d_50_123 : decode (mth 50).2.1 123 = .ok (.ireturn, 1) := by decide +kernel
theorem d_50_124 : decode (mth 50).2.1 124 = .ok (.bipush 24, 2) := by decide +kernel
theorem d_50_126 : decode (mth 50).2.1 126 = .ok (.ireturn, 1) := by decide +kernel
theorem d_50_127 : decode (mth 50).2.1 127 = .ok (.bipush 25, 2) := by decide +kernel
theorem d_50_129 : decode (mth 50).2.1 129 = .ok (.ireturn, 1) := by decide +kernel
theorem d_50_130 : decode (mth 50).2.1 130 = .ok (.bipush 28, 2) := by decide +kernel
theorem d_50_132 : decode (mth 50).2.1 132 = .ok (.ireturn, 1) := by decide +kernel
/-! 51 PlayedTruth$RuleReader.wordOf(II)I -/
theorem d_51_0 : decode (mth 51).2.1 0 = .ok (.iconst 0, 1) := by decide +kernel
theorem d_51_1 : decode (mth 51).2.1 1 = .ok (.istore_n 3, 1) := by decide +kernel
theorem d_51_2 : decode (mth 51).2.1 2 = .ok (.iconst 0, 1) := by decide +kernel
theorem d_51_3 : decode (mth 51).2.1 3 = .ok (.istore 4, 2) := by decide +kernel
theorem d_51_5 : decode (mth 51).2.1 5 = .ok (.iconst 0, 1) := by decide +kernel
theorem d_51_6 : decode (mth 51).2.1 6 = .ok (.istore 5, 2) := by decide +kernel
theorem d_51_8 : decode (mth 51).2.1 8 = .ok (.iload 5, 2) := by decide +kernel
theorem d_51_10 : decode (mth 51).2.1 10 = .ok (.ldc 75, 2) := by decide +kernel
theorem d_51_12 : decode (mth 51).2.1 12 = .ok (.invokevirtual 77, 3) := by decide +kernel
theorem d_51_15 : decode (mth 51).2.1 15 = .ok (.if_icmp .ge 48, 3) := by decide +kernel
theorem d_51_18 : decode (mth 51).2.1 18 = .ok (.ldc 75, 2) := by decide +kernel
theorem d_51_20 : decode (mth 51).2.1 20 = .ok (.iload 5, 2) := by decide +kernel
theorem d_51_22 : decode (mth 51).2.1 22 = .ok (.invokevirtual 83, 3) := by decide +kernel
theorem d_51_25 : decode (mth 51).2.1 25 = .ok (.bipush 32, 2) := by decide +kernel
theorem d_51_27 : decode (mth 51).2.1 27 = .ok (.if_icmp .eq 6, 3) := by decide +kernel
theorem d_51_30 : decode (mth 51).2.1 30 = .ok (.goto 27, 3) := by decide +kernel
theorem d_51_33 : decode (mth 51).2.1 33 = .ok (.aload_n 0, 1) := by decide +kernel
theorem d_51_34 : decode (mth 51).2.1 34 = .ok (.iload_n 1, 1) := by decide +kernel
theorem d_51_35 : decode (mth 51).2.1 35 = .ok (.iload_n 2, 1) := by decide +kernel
theorem d_51_36 : decode (mth 51).2.1 36 = .ok (.iload 4, 2) := by decide +kernel
theorem d_51_38 : decode (mth 51).2.1 38 = .ok (.iload 5, 2) := by decide +kernel
theorem d_51_40 : decode (mth 51).2.1 40 = .ok (.invokevirtual 87, 3) := by decide +kernel
theorem d_51_43 : decode (mth 51).2.1 43 = .ok (.ifCond .eq 5, 3) := by decide +kernel
theorem d_51_46 : decode (mth 51).2.1 46 = .ok (.iload_n 3, 1) := by decide +kernel
theorem d_51_47 : decode (mth 51).2.1 47 = .ok (.ireturn, 1) := by decide +kernel
theorem d_51_48 : decode (mth 51).2.1 48 = .ok (.iinc 3 1, 3) := by decide +kernel
theorem d_51_51 : decode (mth 51).2.1 51 = .ok (.iload 5, 2) := by decide +kernel
theorem d_51_53 : decode (mth 51).2.1 53 = .ok (.iconst 1, 1) := by decide +kernel
theorem d_51_54 : decode (mth 51).2.1 54 = .ok (.iadd, 1) := by decide +kernel
theorem d_51_55 : decode (mth 51).2.1 55 = .ok (.istore 4, 2) := by decide +kernel
theorem d_51_57 : decode (mth 51).2.1 57 = .ok (.iinc 5 1, 3) := by decide +kernel
theorem d_51_60 : decode (mth 51).2.1 60 = .ok (.goto (-52), 3) := by decide +kernel
theorem d_51_63 : decode (mth 51).2.1 63 = .ok (.bipush 28, 2) := by decide +kernel
theorem d_51_65 : decode (mth 51).2.1 65 = .ok (.ireturn, 1) := by decide +kernel
/-! 63 PlayedTruth$RuleReader.isSpelt(IIII)Z -/
theorem d_63_0 : decode (mth 63).2.1 0 = .ok (.iload_n 2, 1) := by decide +kernel
theorem d_63_1 : decode (mth 63).2.1 1 = .ok (.iload_n 1, 1) := by decide +kernel
theorem d_63_2 : decode (mth 63).2.1 2 = .ok (.isub, 1) := by decide +kernel
theorem d_63_3 : decode (mth 63).2.1 3 = .ok (.iload 4, 2) := by decide +kernel
theorem d_63_5 : decode (mth 63).2.1 5 = .ok (.iload_n 3, 1) := by decide +kernel
theorem d_63_6 : decode (mth 63).2.1 6 = .ok (.isub, 1) := by decide +kernel
theorem d_63_7 : decode (mth 63).2.1 7 = .ok (.if_icmp .eq 5, 3) := by decide +kernel
theorem d_63_10 : decode (mth 63).2.1 10 = .ok (.iconst 0, 1) := by decide +kernel
theorem d_63_11 : decode (mth 63).2.1 11 = .ok (.ireturn, 1) := by decide +kernel
theorem d_63_12 : decode (mth 63).2.1 12 = .ok (.iconst 0, 1) := by decide +kernel
theorem d_63_13 : decode (mth 63).2.1 13 = .ok (.istore 5, 2) := by decide +kernel
theorem d_63_15 : decode (mth 63).2.1 15 = .ok (.iload 5, 2) := by decide +kernel
theorem d_63_17 : decode (mth 63).2.1 17 = .ok (.iload_n 2, 1) := by decide +kernel
theorem d_63_18 : decode (mth 63).2.1 18 = .ok (.iload_n 1, 1) := by decide +kernel
theorem d_63_19 : decode (mth 63).2.1 19 = .ok (.isub, 1) := by decide +kernel
theorem d_63_20 : decode (mth 63).2.1 20 = .ok (.if_icmp .ge 32, 3) := by decide +kernel
theorem d_63_23 : decode (mth 63).2.1 23 = .ok (.aload_n 0, 1) := by decide +kernel
theorem d_63_24 : decode (mth 63).2.1 24 = .ok (.getfield 9, 3) := by decide +kernel
theorem d_63_27 : decode (mth 63).2.1 27 = .ok (.iload_n 1, 1) := by decide +kernel
theorem d_63_28 : decode (mth 63).2.1 28 = .ok (.iload 5, 2) := by decide +kernel
theorem d_63_30 : decode (mth 63).2.1 30 = .ok (.iadd, 1) := by decide +kernel
theorem d_63_31 : decode (mth 63).2.1 31 = .ok (.iaload, 1) := by decide +kernel
theorem d_63_32 : decode (mth 63).2.1 32 = .ok (.ldc 75, 2) := by decide +kernel
theorem d_63_34 : decode (mth 63).2.1 34 = .ok (.iload_n 3, 1) := by decide +kernel
theorem d_63_35 : decode (mth 63).2.1 35 = .ok (.iload 5, 2) := by decide +kernel
theorem d_63_37 : decode (mth 63).2.1 37 = .ok (.iadd, 1) := by decide +kernel
theorem d_63_38 : decode (mth 63).2.1 38 = .ok (.invokevirtual 83, 3) := by decide +kernel
theorem d_63_41 : decode (mth 63).2.1 41 = .ok (.if_icmp .eq 5, 3) := by decide +kernel
theorem d_63_44 : decode (mth 63).2.1 44 = .ok (.iconst 0, 1) := by decide +kernel
theorem d_63_45 : decode (mth 63).2.1 45 = .ok (.ireturn, 1) := by decide +kernel
theorem d_63_46 : decode (mth 63).2.1 46 = .ok (.iinc 5 1, 3) := by decide +kernel
theorem d_63_49 : decode (mth 63).2.1 49 = .ok (.goto (-34), 3) := by decide +kernel
theorem d_63_52 : decode (mth 63).2.1 52 = .ok (.iconst 1, 1) := by decide +kernel
theorem d_63_53 : decode (mth 63).2.1 53 = .ok (.ireturn, 1) := by decide +kernel
/-! 64 PlayedTruth$RuleReader.numberOf(II)I -/
theorem d_64_0 : decode (mth 64).2.1 0 = .ok (.iconst 0, 1) := by decide +kernel
theorem d_64_1 : decode (mth 64).2.1 1 = .ok (.istore_n 3, 1) := by decide +kernel
theorem d_64_2 : decode (mth 64).2.1 2 = .ok (.iload_n 1, 1) := by decide +kernel
theorem d_64_3 : decode (mth 64).2.1 3 = .ok (.istore 4, 2) := by decide +kernel
theorem d_64_5 : decode (mth 64).2.1 5 = .ok (.iload 4, 2) := by decide +kernel
theorem d_64_7 : decode (mth 64).2.1 7 = .ok (.iload_n 2, 1) := by decide +kernel
theorem d_64_8 : decode (mth 64).2.1 8 = .ok (.if_icmp .ge 25, 3) := by decide +kernel
theorem d_64_11 : decode (mth 64).2.1 11 = .ok (.iload_n 3, 1) := by decide +kernel
theorem d_64_12 : decode (mth 64).2.1 12 = .ok (.bipush 10, 2) := by decide +kernel
theorem d_64_14 : decode (mth 64).2.1 14 = .ok (.imul, 1) := by decide +kernel
theorem d_64_15 : decode (mth 64).2.1 15 = .ok (.aload_n 0, 1) := by decide +kernel
theorem d_64_16 : decode (mth 64).2.1 16 = .ok (.getfield 9, 3) := by decide +kernel
theorem d_64_19 : decode (mth 64).2.1 19 = .ok (.iload 4, 2) := by decide +kernel
theorem d_64_21 : decode (mth 64).2.1 21 = .ok (.iaload, 1) := by decide +kernel
theorem d_64_22 : decode (mth 64).2.1 22 = .ok (.iadd, 1) := by decide +kernel
theorem d_64_23 : decode (mth 64).2.1 23 = .ok (.bipush 48, 2) := by decide +kernel
theorem d_64_25 : decode (mth 64).2.1 25 = .ok (.isub, 1) := by decide +kernel
theorem d_64_26 : decode (mth 64).2.1 26 = .ok (.istore_n 3, 1) := by decide +kernel
theorem d_64_27 : decode (mth 64).2.1 27 = .ok (.iinc 4 1, 3) := by decide +kernel
theorem d_64_30 : decode (mth 64).2.1 30 = .ok (.goto (-25), 3) := by decide +kernel
theorem d_64_33 : decode (mth 64).2.1 33 = .ok (.iload_n 3, 1) := by decide +kernel
theorem d_64_34 : decode (mth 64).2.1 34 = .ok (.ireturn, 1) := by decide +kernel
/-! 66 PlayedTruth$RuleReader.readRule()Z -/
theorem d_66_0 : decode (mth 66).2.1 0 = .ok (.aload_n 0, 1) := by decide +kernel
theorem d_66_1 : decode (mth 66).2.1 1 = .ok (.getfield 20, 3) := by decide +kernel
theorem d_66_4 : decode (mth 66).2.1 4 = .ok (.getfield 91, 3) := by decide +kernel
theorem d_66_7 : decode (mth 66).2.1 7 = .ok (.bipush 8, 2) := by decide +kernel
theorem d_66_9 : decode (mth 66).2.1 9 = .ok (.if_icmp .ge 11, 3) := by decide +kernel
theorem d_66_12 : decode (mth 66).2.1 12 = .ok (.aload_n 0, 1) := by decide +kernel
theorem d_66_13 : decode (mth 66).2.1 13 = .ok (.getfield 39, 3) := by decide +kernel
theorem d_66_16 : decode (mth 66).2.1 16 = .ok (.iconst 5, 1) := by decide +kernel
theorem d_66_17 : decode (mth 66).2.1 17 = .ok (.if_icmp .le 8, 3) := by decide +kernel
theorem d_66_20 : decode (mth 66).2.1 20 = .ok (.aload_n 0, 1) := by decide +kernel
theorem d_66_21 : decode (mth 66).2.1 21 = .ok (.invokevirtual 94, 3) := by decide +kernel
theorem d_66_24 : decode (mth 66).2.1 24 = .ok (.ireturn, 1) := by decide +kernel
theorem d_66_25 : decode (mth 66).2.1 25 = .ok (.aload_n 0, 1) := by decide +kernel
theorem d_66_26 : decode (mth 66).2.1 26 = .ok (.getfield 39, 3) := by decide +kernel
theorem d_66_29 : decode (mth 66).2.1 29 = .ok (.istore_n 1, 1) := by decide +kernel
theorem d_66_30 : decode (mth 66).2.1 30 = .ok (.aload_n 0, 1) := by decide +kernel
theorem d_66_31 : decode (mth 66).2.1 31 = .ok (.invokevirtual 97, 3) := by decide +kernel
theorem d_66_34 : decode (mth 66).2.1 34 = .ok (.aload_n 0, 1) := by decide +kernel
theorem d_66_35 : decode (mth 66).2.1 35 = .ok (.getfield 39, 3) := by decide +kernel
theorem d_66_38 : decode (mth 66).2.1 38 = .ok (.bipush 9, 2) := by decide +kernel
theorem d_66_40 : decode (mth 66).2.1 40 = .ok (.if_icmp .ne 17, 3) := by decide +kernel
theorem d_66_43 : decode (mth 66).2.1 43 = .ok (.aload_n 0, 1) := by decide +kernel
theorem d_66_44 : decode (mth 66).2.1 44 = .ok (.invokevirtual 97, 3) := by decide +kernel
theorem d_66_47 : decode (mth 66).2.1 47 = .ok (.aload_n 0, 1) := by decide +kernel
theorem d_66_48 : decode (mth 66).2.1 48 = .ok (.iconst 0, 1) := by decide +kernel
theorem d_66_49 : decode (mth 66).2.1 49 = .ok (.invokevirtual 100, 3) := by decide +kernel
theorem d_66_52 : decode (mth 66).2.1 52 = .ok (.ifCond .ne 5, 3) := by decide +kernel
theorem d_66_55 : decode (mth 66).2.1 55 = .ok (.iconst 0, 1) := by decide +kernel
theorem d_66_56 : decode (mth 66).2.1 56 = .ok (.ireturn, 1) := by decide +kernel
theorem d_66_57 : decode (mth 66).2.1 57 = .ok (.aload_n 0, 1) := by decide +kernel
theorem d_66_58 : decode (mth 66).2.1 58 = .ok (.getfield 39, 3) := by decide +kernel
theorem d_66_61 : decode (mth 66).2.1 61 = .ok (.bipush 6, 2) := by decide +kernel
theorem d_66_63 : decode (mth 66).2.1 63 = .ok (.if_icmp .lt 12, 3) := by decide +kernel
theorem d_66_66 : decode (mth 66).2.1 66 = .ok (.aload_n 0, 1) := by decide +kernel
theorem d_66_67 : decode (mth 66).2.1 67 = .ok (.getfield 39, 3) := by decide +kernel
theorem d_66_70 : decode (mth 66).2.1 70 = .ok (.bipush 8, 2) := by decide +kernel
theorem d_66_72 : decode (mth 66).2.1 72 = .ok (.if_icmp .le 8, 3) := by decide +kernel
theorem d_66_75 : decode (mth 66).2.1 75 = .ok (.aload_n 0, 1) := by decide +kernel
theorem d_66_76 : decode (mth 66).2.1 76 = .ok (.invokevirtual 94, 3) := by decide +kernel
theorem d_66_79 : decode (mth 66).2.1 79 = .ok (.ireturn, 1) := by decide +kernel
theorem d_66_80 : decode (mth 66).2.1 80 = .ok (.aload_n 0, 1) := by decide +kernel
theorem d_66_81 : decode (mth 66).2.1 81 = .ok (.getfield 39, 3) := by decide +kernel
theorem d_66_84 : decode (mth 66).2.1 84 = .ok (.bipush 6, 2) := by decide +kernel
theorem d_66_86 : decode (mth 66).2.1 86 = .ok (.isub, 1) := by decide +kernel
theorem d_66_87 : decode (mth 66).2.1 87 = .ok (.istore_n 2, 1) := by decide +kernel
theorem d_66_88 : decode (mth 66).2.1 88 = .ok (.aload_n 0, 1) := by decide +kernel
theorem d_66_89 : decode (mth 66).2.1 89 = .ok (.invokevirtual 97, 3) := by decide +kernel
theorem d_66_92 : decode (mth 66).2.1 92 = .ok (.aload_n 0, 1) := by decide +kernel
theorem d_66_93 : decode (mth 66).2.1 93 = .ok (.getfield 39, 3) := by decide +kernel
theorem d_66_96 : decode (mth 66).2.1 96 = .ok (.bipush 25, 2) := by decide +kernel
theorem d_66_98 : decode (mth 66).2.1 98 = .ok (.if_icmp .eq 8, 3) := by decide +kernel
theorem d_66_101 : decode (mth 66).2.1 101 = .ok (.aload_n 0, 1) := by decide +kernel
theorem d_66_102 : decode (mth 66).2.1 102 = .ok (.invokevirtual 94, 3) := by decide +kernel
theorem d_66_105 : decode (mth 66).2.1 105 = .ok (.ireturn, 1) := by decide +kernel
theorem d_66_106 : decode (mth 66).2.1 106 = .ok (.aload_n 0, 1) := by decide +kernel
theorem d_66_107 : decode (mth 66).2.1 107 = .ok (.invokevirtual 97, 3) := by decide +kernel
theorem d_66_110 : decode (mth 66).2.1 110 = .ok (.aload_n 0, 1) := by decide +kernel
theorem d_66_111 : decode (mth 66).2.1 111 = .ok (.getfield 20, 3) := by decide +kernel
theorem d_66_114 : decode (mth 66).2.1 114 = .ok (.iload_n 1, 1) := by decide +kernel
theorem d_66_115 : decode (mth 66).2.1 115 = .ok (.iload_n 2, 1) := by decide +kernel
theorem d_66_116 : decode (mth 66).2.1 116 = .ok (.invokevirtual 103, 3) := by decide +kernel
theorem d_66_119 : decode (mth 66).2.1 119 = .ok (.iconst 1, 1) := by decide +kernel
theorem d_66_120 : decode (mth 66).2.1 120 = .ok (.ireturn, 1) := by decide +kernel
/-! 67 PlayedTruth$RuleReader.refuse()Z -/
theorem d_67_0 : decode (mth 67).2.1 0 = .ok (.aload_n 0, 1) := by decide +kernel
theorem d_67_1 : decode (mth 67).2.1 1 = .ok (.aload_n 0, 1) := by decide +kernel
theorem d_67_2 : decode (mth 67).2.1 2 = .ok (.getfield 30, 3) := by decide +kernel
theorem d_67_5 : decode (mth 67).2.1 5 = .ok (.aload_n 0, 1) := by decide +kernel
theorem d_67_6 : decode (mth 67).2.1 6 = .ok (.getfield 36, 3) := by decide +kernel
theorem d_67_9 : decode (mth 67).2.1 9 = .ok (.iaload, 1) := by decide +kernel
theorem d_67_10 : decode (mth 67).2.1 10 = .ok (.putfield 24, 3) := by decide +kernel
theorem d_67_13 : decode (mth 67).2.1 13 = .ok (.iconst 0, 1) := by decide +kernel
theorem d_67_14 : decode (mth 67).2.1 14 = .ok (.ireturn, 1) := by decide +kernel
/-! 68 PlayedTruth$RuleReader.advance()V -/
theorem d_68_0 : decode (mth 68).2.1 0 = .ok (.aload_n 0, 1) := by decide +kernel
theorem d_68_1 : decode (mth 68).2.1 1 = .ok (.getfield 36, 3) := by decide +kernel
theorem d_68_4 : decode (mth 68).2.1 4 = .ok (.sipush 200, 3) := by decide +kernel
theorem d_68_7 : decode (mth 68).2.1 7 = .ok (.if_icmp .ge 22, 3) := by decide +kernel
theorem d_68_10 : decode (mth 68).2.1 10 = .ok (.aload_n 0, 1) := by decide +kernel
theorem d_68_11 : decode (mth 68).2.1 11 = .ok (.getfield 39, 3) := by decide +kernel
theorem d_68_14 : decode (mth 68).2.1 14 = .ok (.bipush 27, 2) := by decide +kernel
theorem d_68_16 : decode (mth 68).2.1 16 = .ok (.if_icmp .eq 13, 3) := by decide +kernel
theorem d_68_19 : decode (mth 68).2.1 19 = .ok (.aload_n 0, 1) := by decide +kernel
theorem d_68_20 : decode (mth 68).2.1 20 = .ok (.dup, 1) := by decide +kernel
theorem d_68_21 : decode (mth 68).2.1 21 = .ok (.getfield 36, 3) := by decide +kernel
theorem d_68_24 : decode (mth 68).2.1 24 = .ok (.iconst 1, 1) := by decide +kernel
theorem d_68_25 : decode (mth 68).2.1 25 = .ok (.iadd, 1) := by decide +kernel
theorem d_68_26 : decode (mth 68).2.1 26 = .ok (.putfield 36, 3) := by decide +kernel
theorem d_68_29 : decode (mth 68).2.1 29 = .ok (.aload_n 0, 1) := by decide +kernel
theorem d_68_30 : decode (mth 68).2.1 30 = .ok (.aload_n 0, 1) := by decide +kernel
theorem d_68_31 : decode (mth 68).2.1 31 = .ok (.getfield 27, 3) := by decide +kernel
theorem d_68_34 : decode (mth 68).2.1 34 = .ok (.aload_n 0, 1) := by decide +kernel
theorem d_68_35 : decode (mth 68).2.1 35 = .ok (.getfield 36, 3) := by decide +kernel
theorem d_68_38 : decode (mth 68).2.1 38 = .ok (.iaload, 1) := by decide +kernel
theorem d_68_39 : decode (mth 68).2.1 39 = .ok (.putfield 39, 3) := by decide +kernel
theorem d_68_42 : decode (mth 68).2.1 42 = .ok (.return_, 1) := by decide +kernel
/-! 69 PlayedTruth$RuleReader.readCondition(I)Z -/
theorem d_69_0 : decode (mth 69).2.1 0 = .ok (.aload_n 0, 1) := by decide +kernel
theorem d_69_1 : decode (mth 69).2.1 1 = .ok (.iload_n 1, 1) := by decide +kernel
theorem d_69_2 : decode (mth 69).2.1 2 = .ok (.invokevirtual 107, 3) := by decide +kernel
theorem d_69_5 : decode (mth 69).2.1 5 = .ok (.ifCond .ne 5, 3) := by decide +kernel
theorem d_69_8 : decode (mth 69).2.1 8 = .ok (.iconst 0, 1) := by decide +kernel
theorem d_69_9 : decode (mth 69).2.1 9 = .ok (.ireturn, 1) := by decide +kernel
theorem d_69_10 : decode (mth 69).2.1 10 = .ok (.iconst 0, 1) := by decide +kernel
theorem d_69_11 : decode (mth 69).2.1 11 = .ok (.istore_n 2, 1) := by decide +kernel
theorem d_69_12 : decode (mth 69).2.1 12 = .ok (.iload_n 2, 1) := by decide +kernel
theorem d_69_13 : decode (mth 69).2.1 13 = .ok (.sipush 200, 3) := by decide +kernel
theorem d_69_16 : decode (mth 69).2.1 16 = .ok (.if_icmp .ge 41, 3) := by decide +kernel
theorem d_69_19 : decode (mth 69).2.1 19 = .ok (.aload_n 0, 1) := by decide +kernel
theorem d_69_20 : decode (mth 69).2.1 20 = .ok (.getfield 39, 3) := by decide +kernel
theorem d_69_23 : decode (mth 69).2.1 23 = .ok (.bipush 12, 2) := by decide +kernel
theorem d_69_25 : decode (mth 69).2.1 25 = .ok (.if_icmp .ne 32, 3) := by decide +kernel
theorem d_69_28 : decode (mth 69).2.1 28 = .ok (.aload_n 0, 1) := by decide +kernel
theorem d_69_29 : decode (mth 69).2.1 29 = .ok (.invokevirtual 97, 3) := by decide +kernel
theorem d_69_32 : decode (mth 69).2.1 32 = .ok (.aload_n 0, 1) := by decide +kernel
theorem d_69_33 : decode (mth 69).2.1 33 = .ok (.iload_n 1, 1) := by decide +kernel
theorem d_69_34 : decode (mth 69).2.1 34 = .ok (.invokevirtual 107, 3) := by decide +kernel
theorem d_69_37 : decode (mth 69).2.1 37 = .ok (.ifCond .ne 5, 3) := by decide +kernel
theorem d_69_40 : decode (mth 69).2.1 40 = .ok (.iconst 0, 1) := by decide +kernel
theorem d_69_41 : decode (mth 69).2.1 41 = .ok (.ireturn, 1) := by decide +kernel
theorem d_69_42 : decode (mth 69).2.1 42 = .ok (.aload_n 0, 1) := by decide +kernel
theorem d_69_43 : decode (mth 69).2.1 43 = .ok (.getfield 20, 3) := by decide +kernel
theorem d_69_46 : decode (mth 69).2.1 46 = .ok (.bipush 12, 2) := by decide +kernel
theorem d_69_48 : decode (mth 69).2.1 48 = .ok (.invokevirtual 110, 3) := by decide +kernel
theorem d_69_51 : decode (mth 69).2.1 51 = .ok (.iinc 2 1, 3) := by decide +kernel
theorem d_69_54 : decode (mth 69).2.1 54 = .ok (.goto (-42), 3) := by decide +kernel
theorem d_69_57 : decode (mth 69).2.1 57 = .ok (.iconst 1, 1) := by decide +kernel
theorem d_69_58 : decode (mth 69).2.1 58 = .ok (.ireturn, 1) := by decide +kernel
/-! 70 PlayedTruth$RuleReader.readAll(I)Z -/
theorem d_70_0 : decode (mth 70).2.1 0 = .ok (.aload_n 0, 1) := by decide +kernel
theorem d_70_1 : decode (mth 70).2.1 1 = .ok (.iload_n 1, 1) := by decide +kernel
theorem d_70_2 : decode (mth 70).2.1 2 = .ok (.invokevirtual 114, 3) := by decide +kernel
theorem d_70_5 : decode (mth 70).2.1 5 = .ok (.ifCond .ne 5, 3) := by decide +kernel
theorem d_70_8 : decode (mth 70).2.1 8 = .ok (.iconst 0, 1) := by decide +kernel
theorem d_70_9 : decode (mth 70).2.1 9 = .ok (.ireturn, 1) := by decide +kernel
theorem d_70_10 : decode (mth 70).2.1 10 = .ok (.iconst 0, 1) := by decide +kernel
theorem d_70_11 : decode (mth 70).2.1 11 = .ok (.istore_n 2, 1) := by decide +kernel
theorem d_70_12 : decode (mth 70).2.1 12 = .ok (.iload_n 2, 1) := by decide +kernel
theorem d_70_13 : decode (mth 70).2.1 13 = .ok (.sipush 200, 3) := by decide +kernel
theorem d_70_16 : decode (mth 70).2.1 16 = .ok (.if_icmp .ge 41, 3) := by decide +kernel
theorem d_70_19 : decode (mth 70).2.1 19 = .ok (.aload_n 0, 1) := by decide +kernel
theorem d_70_20 : decode (mth 70).2.1 20 = .ok (.getfield 39, 3) := by decide +kernel
theorem d_70_23 : decode (mth 70).2.1 23 = .ok (.bipush 11, 2) := by decide +kernel
theorem d_70_25 : decode (mth 70).2.1 25 = .ok (.if_icmp .ne 32, 3) := by decide +kernel
theorem d_70_28 : decode (mth 70).2.1 28 = .ok (.aload_n 0, 1) := by decide +kernel
theorem d_70_29 : decode (mth 70).2.1 29 = .ok (.invokevirtual 97, 3) := by decide +kernel
theorem d_70_32 : decode (mth 70).2.1 32 = .ok (.aload_n 0, 1) := by decide +kernel
theorem d_70_33 : decode (mth 70).2.1 33 = .ok (.iload_n 1, 1) := by decide +kernel
theorem d_70_34 : decode (mth 70).2.1 34 = .ok (.invokevirtual 114, 3) := by decide +kernel
theorem d_70_37 : decode (mth 70).2.1 37 = .ok (.ifCond .ne 5, 3) := by decide +kernel
theorem d_70_40 : decode (mth 70).2.1 40 = .ok (.iconst 0, 1) := by decide +kernel
theorem d_70_41 : decode (mth 70).2.1 41 = .ok (.ireturn, 1) := by decide +kernel
theorem d_70_42 : decode (mth 70).2.1 42 = .ok (.aload_n 0, 1) := by decide +kernel
theorem d_70_43 : decode (mth 70).2.1 43 = .ok (.getfield 20, 3) := by decide +kernel
theorem d_70_46 : decode (mth 70).2.1 46 = .ok (.bipush 11, 2) := by decide +kernel
theorem d_70_48 : decode (mth 70).2.1 48 = .ok (.invokevirtual 110, 3) := by decide +kernel
theorem d_70_51 : decode (mth 70).2.1 51 = .ok (.iinc 2 1, 3) := by decide +kernel
theorem d_70_54 : decode (mth 70).2.1 54 = .ok (.goto (-42), 3) := by decide +kernel
theorem d_70_57 : decode (mth 70).2.1 57 = .ok (.iconst 1, 1) := by decide +kernel
theorem d_70_58 : decode (mth 70).2.1 58 = .ok (.ireturn, 1) := by decide +kernel
/-! 71 PlayedTruth$RuleReader.readOne(I)Z -/
theorem d_71_0 : decode (mth 71).2.1 0 = .ok (.iconst 0, 1) := by decide +kernel
theorem d_71_1 : decode (mth 71).2.1 1 = .ok (.istore_n 2, 1) := by decide +kernel
theorem d_71_2 : decode (mth 71).2.1 2 = .ok (.iconst 0, 1) := by decide +kernel
theorem d_71_3 : decode (mth 71).2.1 3 = .ok (.istore_n 3, 1) := by decide +kernel
theorem d_71_4 : decode (mth 71).2.1 4 = .ok (.iload_n 3, 1) := by decide +kernel
theorem d_71_5 : decode (mth 71).2.1 5 = .ok (.sipush 200, 3) := by decide +kernel
theorem d_71_8 : decode (mth 71).2.1 8 = .ok (.if_icmp .ge 32, 3) := by decide +kernel
theorem d_71_11 : decode (mth 71).2.1 11 = .ok (.aload_n 0, 1) := by decide +kernel
theorem d_71_12 : decode (mth 71).2.1 12 = .ok (.getfield 39, 3) := by decide +kernel
theorem d_71_15 : decode (mth 71).2.1 15 = .ok (.bipush 10, 2) := by decide +kernel
theorem d_71_17 : decode (mth 71).2.1 17 = .ok (.if_icmp .ne 23, 3) := by decide +kernel
theorem d_71_20 : decode (mth 71).2.1 20 = .ok (.iload_n 2, 1) := by decide +kernel
theorem d_71_21 : decode (mth 71).2.1 21 = .ok (.ifCond .ne 7, 3) := by decide +kernel
theorem d_71_24 : decode (mth 71).2.1 24 = .ok (.iconst 1, 1) := by decide +kernel
theorem d_71_25 : decode (mth 71).2.1 25 = .ok (.goto 4, 3) := by decide +kernel
theorem d_71_28 : decode (mth 71).2.1 28 = .ok (.iconst 0, 1) := by decide +kernel
theorem d_71_29 : decode (mth 71).2.1 29 = .ok (.istore_n 2, 1) := by decide +kernel
theorem d_71_30 : decode (mth 71).2.1 30 = .ok (.aload_n 0, 1) := by decide +kernel
theorem d_71_31 : decode (mth 71).2.1 31 = .ok (.invokevirtual 97, 3) := by decide +kernel
theorem d_71_34 : decode (mth 71).2.1 34 = .ok (.iinc 3 1, 3) := by decide +kernel
theorem d_71_37 : decode (mth 71).2.1 37 = .ok (.goto (-33), 3) := by decide +kernel
theorem d_71_40 : decode (mth 71).2.1 40 = .ok (.aload_n 0, 1) := by decide +kernel
theorem d_71_41 : decode (mth 71).2.1 41 = .ok (.getfield 39, 3) := by decide +kernel
theorem d_71_44 : decode (mth 71).2.1 44 = .ok (.bipush 23, 2) := by decide +kernel
theorem d_71_46 : decode (mth 71).2.1 46 = .ok (.if_icmp .ne 11, 3) := by decide +kernel
theorem d_71_49 : decode (mth 71).2.1 49 = .ok (.aload_n 0, 1) := by decide +kernel
theorem d_71_50 : decode (mth 71).2.1 50 = .ok (.iload_n 1, 1) := by decide +kernel
theorem d_71_51 : decode (mth 71).2.1 51 = .ok (.invokevirtual 117, 3) := by decide +kernel
theorem d_71_54 : decode (mth 71).2.1 54 = .ok (.goto 7, 3) := by decide +kernel
theorem d_71_57 : decode (mth 71).2.1 57 = .ok (.aload_n 0, 1) := by decide +kernel
theorem d_71_58 : decode (mth 71).2.1 58 = .ok (.invokevirtual 120, 3) := by decide +kernel
theorem d_71_61 : decode (mth 71).2.1 61 = .ok (.istore_n 3, 1) := by decide +kernel
theorem d_71_62 : decode (mth 71).2.1 62 = .ok (.iload_n 3, 1) := by decide +kernel
theorem d_71_63 : decode (mth 71).2.1 63 = .ok (.ifCond .eq 16, 3) := by decide +kernel
theorem d_71_66 : decode (mth 71).2.1 66 = .ok (.iload_n 2, 1) := by decide +kernel
theorem d_71_67 : decode (mth 71).2.1 67 = .ok (.ifCond .eq 12, 3) := by decide +kernel
theorem d_71_70 : decode (mth 71).2.1 70 = .ok (.aload_n 0, 1) := by decide +kernel
theorem d_71_71 : decode (mth 71).2.1 71 = .ok (.getfield 20, 3) := by decide +kernel
theorem d_71_74 : decode (mth 71).2.1 74 = .ok (.bipush 10, 2) := by decide +kernel
theorem d_71_76 : decode (mth 71).2.1 76 = .ok (.invokevirtual 110, 3) := by decide +kernel
theorem d_71_79 : decode (mth 71).2.1 79 = .ok (.iload_n 3, 1) := by decide +kernel
theorem d_71_80 : decode (mth 71).2.1 80 = .ok (.ireturn, 1) := by decide +kernel
/-! 72 PlayedTruth$RuleReader.readBracket(I)Z -/
theorem d_72_0 : decode (mth 72).2.1 0 = .ok (.iload_n 1, 1) := by decide +kernel
theorem d_72_1 : decode (mth 72).2.1 1 = .ok (.iconst 3, 1) := by decide +kernel
theorem d_72_2 : decode (mth 72).2.1 2 = .ok (.if_icmp .lt 8, 3) := by decide +kernel
theorem d_72_5 : decode (mth 72).2.1 5 = .ok (.aload_n 0, 1) := by decide +kernel
theorem d_72_6 : decode (mth 72).2.1 6 = .ok (.invokevirtual 94, 3) := by decide +kernel
theorem d_72_9 : decode (mth 72).2.1 9 = .ok (.ireturn, 1) := by decide +kernel
theorem d_72_10 : decode (mth 72).2.1 10 = .ok (.aload_n 0, 1) := by decide +kernel
theorem d_72_11 : decode (mth 72).2.1 11 = .ok (.invokevirtual 97, 3) := by decide +kernel
theorem d_72_14 : decode (mth 72).2.1 14 = .ok (.aload_n 0, 1) := by decide +kernel
theorem d_72_15 : decode (mth 72).2.1 15 = .ok (.iload_n 1, 1) := by decide +kernel
theorem d_72_16 : decode (mth 72).2.1 16 = .ok (.iconst 1, 1) := by decide +kernel
theorem d_72_17 : decode (mth 72).2.1 17 = .ok (.iadd, 1) := by decide +kernel
theorem d_72_18 : decode (mth 72).2.1 18 = .ok (.invokevirtual 100, 3) := by decide +kernel
theorem d_72_21 : decode (mth 72).2.1 21 = .ok (.ifCond .ne 5, 3) := by decide +kernel
theorem d_72_24 : decode (mth 72).2.1 24 = .ok (.iconst 0, 1) := by decide +kernel
theorem d_72_25 : decode (mth 72).2.1 25 = .ok (.ireturn, 1) := by decide +kernel
theorem d_72_26 : decode (mth 72).2.1 26 = .ok (.aload_n 0, 1) := by decide +kernel
theorem d_72_27 : decode (mth 72).2.1 27 = .ok (.getfield 39, 3) := by decide +kernel
theorem d_72_30 : decode (mth 72).2.1 30 = .ok (.bipush 24, 2) := by decide +kernel
theorem d_72_32 : decode (mth 72).2.1 32 = .ok (.if_icmp .eq 8, 3) := by decide +kernel
theorem d_72_35 : decode (mth 72).2.1 35 = .ok (.aload_n 0, 1) := by decide +kernel
theorem d_72_36 : decode (mth 72).2.1 36 = .ok (.invokevirtual 94, 3) := by decide +kernel
theorem d_72_39 : decode (mth 72).2.1 39 = .ok (.ireturn, 1) := by decide +kernel
theorem d_72_40 : decode (mth 72).2.1 40 = .ok (.aload_n 0, 1) := by decide +kernel
theorem d_72_41 : decode (mth 72).2.1 41 = .ok (.invokevirtual 97, 3) := by decide +kernel
theorem d_72_44 : decode (mth 72).2.1 44 = .ok (.iconst 1, 1) := by decide +kernel
theorem d_72_45 : decode (mth 72).2.1 45 = .ok (.ireturn, 1) := by decide +kernel
/-! 73 PlayedTruth$RuleReader.readComparison()Z -/
theorem d_73_0 : decode (mth 73).2.1 0 = .ok (.aload_n 0, 1) := by decide +kernel
theorem d_73_1 : decode (mth 73).2.1 1 = .ok (.invokevirtual 123, 3) := by decide +kernel
theorem d_73_4 : decode (mth 73).2.1 4 = .ok (.ifCond .ne 8, 3) := by decide +kernel
theorem d_73_7 : decode (mth 73).2.1 7 = .ok (.aload_n 0, 1) := by decide +kernel
theorem d_73_8 : decode (mth 73).2.1 8 = .ok (.invokevirtual 94, 3) := by decide +kernel
theorem d_73_11 : decode (mth 73).2.1 11 = .ok (.ireturn, 1) := by decide +kernel
theorem d_73_12 : decode (mth 73).2.1 12 = .ok (.aload_n 0, 1) := by decide +kernel
theorem d_73_13 : decode (mth 73).2.1 13 = .ok (.invokevirtual 126, 3) := by decide +kernel
theorem d_73_16 : decode (mth 73).2.1 16 = .ok (.istore_n 1, 1) := by decide +kernel
theorem d_73_17 : decode (mth 73).2.1 17 = .ok (.aload_n 0, 1) := by decide +kernel
theorem d_73_18 : decode (mth 73).2.1 18 = .ok (.invokevirtual 97, 3) := by decide +kernel
theorem d_73_21 : decode (mth 73).2.1 21 = .ok (.aload_n 0, 1) := by decide +kernel
theorem d_73_22 : decode (mth 73).2.1 22 = .ok (.getfield 39, 3) := by decide +kernel
theorem d_73_25 : decode (mth 73).2.1 25 = .ok (.bipush 20, 2) := by decide +kernel
theorem d_73_27 : decode (mth 73).2.1 27 = .ok (.if_icmp .lt 12, 3) := by decide +kernel
theorem d_73_30 : decode (mth 73).2.1 30 = .ok (.aload_n 0, 1) := by decide +kernel
theorem d_73_31 : decode (mth 73).2.1 31 = .ok (.getfield 39, 3) := by decide +kernel
theorem d_73_34 : decode (mth 73).2.1 34 = .ok (.bipush 22, 2) := by decide +kernel
theorem d_73_36 : decode (mth 73).2.1 36 = .ok (.if_icmp .le 8, 3) := by decide +kernel
theorem d_73_39 : decode (mth 73).2.1 39 = .ok (.aload_n 0, 1) := by decide +kernel
theorem d_73_40 : decode (mth 73).2.1 40 = .ok (.invokevirtual 94, 3) := by decide +kernel
theorem d_73_43 : decode (mth 73).2.1 43 = .ok (.ireturn, 1) := by decide +kernel
theorem d_73_44 : decode (mth 73).2.1 44 = .ok (.aload_n 0, 1) := by decide +kernel
theorem d_73_45 : decode (mth 73).2.1 45 = .ok (.getfield 39, 3) := by decide +kernel
theorem d_73_48 : decode (mth 73).2.1 48 = .ok (.istore_n 2, 1) := by decide +kernel
theorem d_73_49 : decode (mth 73).2.1 49 = .ok (.aload_n 0, 1) := by decide +kernel
theorem d_73_50 : decode (mth 73).2.1 50 = .ok (.invokevirtual 97, 3) := by decide +kernel
theorem d_73_53 : decode (mth 73).2.1 53 = .ok (.aload_n 0, 1) := by decide +kernel
theorem d_73_54 : decode (mth 73).2.1 54 = .ok (.invokevirtual 123, 3) := by decide +kernel
theorem d_73_57 : decode (mth 73).2.1 57 = .ok (.ifCond .ne 8, 3) := by decide +kernel
theorem d_73_60 : decode (mth 73).2.1 60 = .ok (.aload_n 0, 1) := by decide +kernel
theorem d_73_61 : decode (mth 73).2.1 61 = .ok (.invokevirtual 94, 3) := by decide +kernel
theorem d_73_64 : decode (mth 73).2.1 64 = .ok (.ireturn, 1) := by decide +kernel
theorem d_73_65 : decode (mth 73).2.1 65 = .ok (.aload_n 0, 1) := by decide +kernel
theorem d_73_66 : decode (mth 73).2.1 66 = .ok (.getfield 20, 3) := by decide +kernel
theorem d_73_69 : decode (mth 73).2.1 69 = .ok (.iload_n 2, 1) := by decide +kernel
theorem d_73_70 : decode (mth 73).2.1 70 = .ok (.invokevirtual 110, 3) := by decide +kernel
theorem d_73_73 : decode (mth 73).2.1 73 = .ok (.aload_n 0, 1) := by decide +kernel
theorem d_73_74 : decode (mth 73).2.1 74 = .ok (.getfield 20, 3) := by decide +kernel
theorem d_73_77 : decode (mth 73).2.1 77 = .ok (.iload_n 1, 1) := by decide +kernel
theorem d_73_78 : decode (mth 73).2.1 78 = .ok (.invokevirtual 110, 3) := by decide +kernel
theorem d_73_81 : decode (mth 73).2.1 81 = .ok (.aload_n 0, 1) := by decide +kernel
theorem d_73_82 : decode (mth 73).2.1 82 = .ok (.getfield 20, 3) := by decide +kernel
theorem d_73_85 : decode (mth 73).2.1 85 = .ok (.aload_n 0, 1) := by decide +kernel
theorem d_73_86 : decode (mth 73).2.1 86 = .ok (.invokevirtual 126, 3) := by decide +kernel
theorem d_73_89 : decode (mth 73).2.1 89 = .ok (.invokevirtual 110, 3) := by decide +kernel
theorem d_73_92 : decode (mth 73).2.1 92 = .ok (.aload_n 0, 1) := by decide +kernel
theorem d_73_93 : decode (mth 73).2.1 93 = .ok (.invokevirtual 97, 3) := by decide +kernel
theorem d_73_96 : decode (mth 73).2.1 96 = .ok (.iconst 1, 1) := by decide +kernel
theorem d_73_97 : decode (mth 73).2.1 97 = .ok (.ireturn, 1) := by decide +kernel
/-! 74 PlayedTruth$RuleReader.isValue()Z -/
theorem d_74_0 : decode (mth 74).2.1 0 = .ok (.aload_n 0, 1) := by decide +kernel
theorem d_74_1 : decode (mth 74).2.1 1 = .ok (.getfield 39, 3) := by decide +kernel
theorem d_74_4 : decode (mth 74).2.1 4 = .ok (.bipush 26, 2) := by decide +kernel
theorem d_74_6 : decode (mth 74).2.1 6 = .ok (.if_icmp .eq 21, 3) := by decide +kernel
theorem d_74_9 : decode (mth 74).2.1 9 = .ok (.aload_n 0, 1) := by decide +kernel
theorem d_74_10 : decode (mth 74).2.1 10 = .ok (.getfield 39, 3) := by decide +kernel
theorem d_74_13 : decode (mth 74).2.1 13 = .ok (.bipush 13, 2) := by decide +kernel
theorem d_74_15 : decode (mth 74).2.1 15 = .ok (.if_icmp .lt 16, 3) := by decide +kernel
theorem d_74_18 : decode (mth 74).2.1 18 = .ok (.aload_n 0, 1) := by decide +kernel
theorem d_74_19 : decode (mth 74).2.1 19 = .ok (.getfield 39, 3) := by decide +kernel
theorem d_74_22 : decode (mth 74).2.1 22 = .ok (.bipush 17, 2) := by decide +kernel
theorem d_74_24 : decode (mth 74).2.1 24 = .ok (.if_icmp .gt 7, 3) := by decide +kernel
theorem d_74_27 : decode (mth 74).2.1 27 = .ok (.iconst 1, 1) := by decide +kernel
theorem d_74_28 : decode (mth 74).2.1 28 = .ok (.goto 4, 3) := by decide +kernel
theorem d_74_31 : decode (mth 74).2.1 31 = .ok (.iconst 0, 1) := by decide +kernel
theorem d_74_32 : decode (mth 74).2.1 32 = .ok (.ireturn, 1) := by decide +kernel
/-! 75 PlayedTruth$RuleReader.toldValue()I -/
theorem d_75_0 : decode (mth 75).2.1 0 = .ok (.aload_n 0, 1) := by decide +kernel
theorem d_75_1 : decode (mth 75).2.1 1 = .ok (.getfield 39, 3) := by decide +kernel
theorem d_75_4 : decode (mth 75).2.1 4 = .ok (.bipush 26, 2) := by decide +kernel
theorem d_75_6 : decode (mth 75).2.1 6 = .ok (.if_icmp .ne 15, 3) := by decide +kernel
theorem d_75_9 : decode (mth 75).2.1 9 = .ok (.aload_n 0, 1) := by decide +kernel
theorem d_75_10 : decode (mth 75).2.1 10 = .ok (.getfield 33, 3) := by decide +kernel
theorem d_75_13 : decode (mth 75).2.1 13 = .ok (.aload_n 0, 1) := by decide +kernel
theorem d_75_14 : decode (mth 75).2.1 14 = .ok (.getfield 36, 3) := by decide +kernel
theorem d_75_17 : decode (mth 75).2.1 17 = .ok (.iaload, 1) := by decide +kernel
theorem d_75_18 : decode (mth 75).2.1 18 = .ok (.goto 14, 3) := by decide +kernel
theorem d_75_21 : decode (mth 75).2.1 21 = .ok (.sipush 10000, 3) := by decide +kernel
theorem d_75_24 : decode (mth 75).2.1 24 = .ok (.aload_n 0, 1) := by decide +kernel
theorem d_75_25 : decode (mth 75).2.1 25 = .ok (.getfield 39, 3) := by decide +kernel
theorem d_75_28 : decode (mth 75).2.1 28 = .ok (.iadd, 1) := by decide +kernel
theorem d_75_29 : decode (mth 75).2.1 29 = .ok (.bipush 13, 2) := by decide +kernel
theorem d_75_31 : decode (mth 75).2.1 31 = .ok (.isub, 1) := by decide +kernel
theorem d_75_32 : decode (mth 75).2.1 32 = .ok (.ireturn, 1) := by decide +kernel
