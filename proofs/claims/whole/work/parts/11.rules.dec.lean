/-! 25 PlayedTruth$Rules.willOf(I[I)I -/
theorem d_25_0 : decode (mth 25).2.1 0 = .ok (.iconst 0, 1) := by decide +kernel
theorem d_25_1 : decode (mth 25).2.1 1 = .ok (.istore_n 3, 1) := by decide +kernel
theorem d_25_2 : decode (mth 25).2.1 2 = .ok (.iconst 0, 1) := by decide +kernel
theorem d_25_3 : decode (mth 25).2.1 3 = .ok (.istore 4, 2) := by decide +kernel
theorem d_25_5 : decode (mth 25).2.1 5 = .ok (.iload 4, 2) := by decide +kernel
theorem d_25_7 : decode (mth 25).2.1 7 = .ok (.aload_n 0, 1) := by decide +kernel
theorem d_25_8 : decode (mth 25).2.1 8 = .ok (.getfield 30, 3) := by decide +kernel
theorem d_25_11 : decode (mth 25).2.1 11 = .ok (.if_icmp .ge 55, 3) := by decide +kernel
theorem d_25_14 : decode (mth 25).2.1 14 = .ok (.iload_n 1, 1) := by decide +kernel
theorem d_25_15 : decode (mth 25).2.1 15 = .ok (.aload_n 0, 1) := by decide +kernel
theorem d_25_16 : decode (mth 25).2.1 16 = .ok (.getfield 13, 3) := by decide +kernel
theorem d_25_19 : decode (mth 25).2.1 19 = .ok (.iload 4, 2) := by decide +kernel
theorem d_25_21 : decode (mth 25).2.1 21 = .ok (.iaload, 1) := by decide +kernel
theorem d_25_22 : decode (mth 25).2.1 22 = .ok (.invokestatic 39, 3) := by decide +kernel
theorem d_25_25 : decode (mth 25).2.1 25 = .ok (.ifCond .eq 27, 3) := by decide +kernel
theorem d_25_28 : decode (mth 25).2.1 28 = .ok (.aload_n 0, 1) := by decide +kernel
theorem d_25_29 : decode (mth 25).2.1 29 = .ok (.iload_n 3, 1) := by decide +kernel
theorem d_25_30 : decode (mth 25).2.1 30 = .ok (.aload_n 0, 1) := by decide +kernel
theorem d_25_31 : decode (mth 25).2.1 31 = .ok (.getfield 20, 3) := by decide +kernel
theorem d_25_34 : decode (mth 25).2.1 34 = .ok (.iload 4, 2) := by decide +kernel
theorem d_25_36 : decode (mth 25).2.1 36 = .ok (.iaload, 1) := by decide +kernel
theorem d_25_37 : decode (mth 25).2.1 37 = .ok (.aload_n 2, 1) := by decide +kernel
theorem d_25_38 : decode (mth 25).2.1 38 = .ok (.invokevirtual 45, 3) := by decide +kernel
theorem d_25_41 : decode (mth 25).2.1 41 = .ok (.ifCond .eq 11, 3) := by decide +kernel
theorem d_25_44 : decode (mth 25).2.1 44 = .ok (.aload_n 0, 1) := by decide +kernel
theorem d_25_45 : decode (mth 25).2.1 45 = .ok (.getfield 17, 3) := by decide +kernel
theorem d_25_48 : decode (mth 25).2.1 48 = .ok (.iload 4, 2) := by decide +kernel
theorem d_25_50 : decode (mth 25).2.1 50 = .ok (.iaload, 1) := by decide +kernel
theorem d_25_51 : decode (mth 25).2.1 51 = .ok (.ireturn, 1) := by decide +kernel
theorem d_25_52 : decode (mth 25).2.1 52 = .ok (.aload_n 0, 1) := by decide +kernel
theorem d_25_53 : decode (mth 25).2.1 53 = .ok (.getfield 20, 3) := by decide +kernel
theorem d_25_56 : decode (mth 25).2.1 56 = .ok (.iload 4, 2) := by decide +kernel
theorem d_25_58 : decode (mth 25).2.1 58 = .ok (.iaload, 1) := by decide +kernel
theorem d_25_59 : decode (mth 25).2.1 59 = .ok (.istore_n 3, 1) := by decide +kernel
theorem d_25_60 : decode (mth 25).2.1 60 = .ok (.iinc 4 1, 3) := by decide +kernel
theorem d_25_63 : decode (mth 25).2.1 63 = .ok (.goto (-58), 3) := by decide +kernel
theorem d_25_66 : decode (mth 25).2.1 66 = .ok (.iconst 0, 1) := by decide +kernel
theorem d_25_67 : decode (mth 25).2.1 67 = .ok (.ireturn, 1) := by decide +kernel
/-! 27 PlayedTruth$Rules.holds(II[I)Z -/
theorem d_27_0 : decode (mth 27).2.1 0 = .ok (.iload_n 1, 1) := by decide +kernel
theorem d_27_1 : decode (mth 27).2.1 1 = .ok (.iload_n 2, 1) := by decide +kernel
theorem d_27_2 : decode (mth 27).2.1 2 = .ok (.if_icmp .ne 7, 3) := by decide +kernel
theorem d_27_5 : decode (mth 27).2.1 5 = .ok (.iconst 1, 1) := by decide +kernel
theorem d_27_6 : decode (mth 27).2.1 6 = .ok (.goto 4, 3) := by decide +kernel
theorem d_27_9 : decode (mth 27).2.1 9 = .ok (.iconst 0, 1) := by decide +kernel
theorem d_27_10 : decode (mth 27).2.1 10 = .ok (.istore 4, 2) := by decide +kernel
theorem d_27_12 : decode (mth 27).2.1 12 = .ok (.iload_n 1, 1) := by decide +kernel
theorem d_27_13 : decode (mth 27).2.1 13 = .ok (.istore 5, 2) := by decide +kernel
theorem d_27_15 : decode (mth 27).2.1 15 = .ok (.iload 5, 2) := by decide +kernel
theorem d_27_17 : decode (mth 27).2.1 17 = .ok (.iload_n 2, 1) := by decide +kernel
theorem d_27_18 : decode (mth 27).2.1 18 = .ok (.if_icmp .ge 253, 3) := by decide +kernel
theorem d_27_21 : decode (mth 27).2.1 21 = .ok (.aload_n 0, 1) := by decide +kernel
theorem d_27_22 : decode (mth 27).2.1 22 = .ok (.getfield 23, 3) := by decide +kernel
theorem d_27_25 : decode (mth 27).2.1 25 = .ok (.iload 5, 2) := by decide +kernel
theorem d_27_27 : decode (mth 27).2.1 27 = .ok (.iaload, 1) := by decide +kernel
theorem d_27_28 : decode (mth 27).2.1 28 = .ok (.istore 6, 2) := by decide +kernel
theorem d_27_30 : decode (mth 27).2.1 30 = .ok (.iload 4, 2) := by decide +kernel
theorem d_27_32 : decode (mth 27).2.1 32 = .ok (.iconst 1, 1) := by decide +kernel
theorem d_27_33 : decode (mth 27).2.1 33 = .ok (.iand, 1) := by decide +kernel
theorem d_27_34 : decode (mth 27).2.1 34 = .ok (.istore 7, 2) := by decide +kernel
theorem d_27_36 : decode (mth 27).2.1 36 = .ok (.iload 6, 2) := by decide +kernel
theorem d_27_38 : decode (mth 27).2.1 38 = .ok (.bipush 10, 2) := by decide +kernel
theorem d_27_40 : decode (mth 27).2.1 40 = .ok (.if_icmp .ne 12, 3) := by decide +kernel
theorem d_27_43 : decode (mth 27).2.1 43 = .ok (.iload 4, 2) := by decide +kernel
theorem d_27_45 : decode (mth 27).2.1 45 = .ok (.iconst 1, 1) := by decide +kernel
theorem d_27_46 : decode (mth 27).2.1 46 = .ok (.ixor, 1) := by decide +kernel
theorem d_27_47 : decode (mth 27).2.1 47 = .ok (.istore 4, 2) := by decide +kernel
theorem d_27_49 : decode (mth 27).2.1 49 = .ok (.goto 216, 3) := by decide +kernel
theorem d_27_52 : decode (mth 27).2.1 52 = .ok (.iload 6, 2) := by decide +kernel
theorem d_27_54 : decode (mth 27).2.1 54 = .ok (.bipush 11, 2) := by decide +kernel
theorem d_27_56 : decode (mth 27).2.1 56 = .ok (.if_icmp .ne 18, 3) := by decide +kernel
theorem d_27_59 : decode (mth 27).2.1 59 = .ok (.iload 4, 2) := by decide +kernel
theorem d_27_61 : decode (mth 27).2.1 61 = .ok (.iconst 1, 1) := by decide +kernel
theorem d_27_62 : decode (mth 27).2.1 62 = .ok (.iushr, 1) := by decide +kernel
theorem d_27_63 : decode (mth 27).2.1 63 = .ok (.iload 7, 2) := by decide +kernel
theorem d_27_65 : decode (mth 27).2.1 65 = .ok (.bipush (-2), 2) := by decide +kernel
theorem d_27_67 : decode (mth 27).2.1 67 = .ok (.ior, 1) := by decide +kernel
theorem d_27_68 : decode (mth 27).2.1 68 = .ok (.iand, 1) := by decide +kernel
theorem d_27_69 : decode (mth 27).2.1 69 = .ok (.istore 4, 2) := by decide +kernel
theorem d_27_71 : decode (mth 27).2.1 71 = .ok (.goto 194, 3) := by decide +kernel
theorem d_27_74 : decode (mth 27).2.1 74 = .ok (.iload 6, 2) := by decide +kernel
theorem d_27_76 : decode (mth 27).2.1 76 = .ok (.bipush 12, 2) := by decide +kernel
theorem d_27_78 : decode (mth 27).2.1 78 = .ok (.if_icmp .ne 15, 3) := by decide +kernel
theorem d_27_81 : decode (mth 27).2.1 81 = .ok (.iload 4, 2) := by decide +kernel
theorem d_27_83 : decode (mth 27).2.1 83 = .ok (.iconst 1, 1) := by decide +kernel
theorem d_27_84 : decode (mth 27).2.1 84 = .ok (.iushr, 1) := by decide +kernel
theorem d_27_85 : decode (mth 27).2.1 85 = .ok (.iload 7, 2) := by decide +kernel
theorem d_27_87 : decode (mth 27).2.1 87 = .ok (.ior, 1) := by decide +kernel
theorem d_27_88 : decode (mth 27).2.1 88 = .ok (.istore 4, 2) := by decide +kernel
theorem d_27_90 : decode (mth 27).2.1 90 = .ok (.goto 175, 3) := by decide +kernel
theorem d_27_93 : decode (mth 27).2.1 93 = .ok (.iload 5, 2) := by decide +kernel
theorem d_27_95 : decode (mth 27).2.1 95 = .ok (.iconst 2, 1) := by decide +kernel
theorem d_27_96 : decode (mth 27).2.1 96 = .ok (.iadd, 1) := by decide +kernel
theorem d_27_97 : decode (mth 27).2.1 97 = .ok (.iload_n 2, 1) := by decide +kernel
theorem d_27_98 : decode (mth 27).2.1 98 = .ok (.if_icmp .ge 167, 3) := by decide +kernel
theorem d_27_101 : decode (mth 27).2.1 101 = .ok (.aload_n 0, 1) := by decide +kernel
theorem d_27_102 : decode (mth 27).2.1 102 = .ok (.getfield 23, 3) := by decide +kernel
theorem d_27_105 : decode (mth 27).2.1 105 = .ok (.iload 5, 2) := by decide +kernel
theorem d_27_107 : decode (mth 27).2.1 107 = .ok (.iconst 1, 1) := by decide +kernel
theorem d_27_108 : decode (mth 27).2.1 108 = .ok (.iadd, 1) := by decide +kernel
theorem d_27_109 : decode (mth 27).2.1 109 = .ok (.iaload, 1) := by decide +kernel
theorem d_27_110 : decode (mth 27).2.1 110 = .ok (.sipush 10000, 3) := by decide +kernel
theorem d_27_113 : decode (mth 27).2.1 113 = .ok (.isub, 1) := by decide +kernel
theorem d_27_114 : decode (mth 27).2.1 114 = .ok (.istore 8, 2) := by decide +kernel
theorem d_27_116 : decode (mth 27).2.1 116 = .ok (.aload_n 0, 1) := by decide +kernel
theorem d_27_117 : decode (mth 27).2.1 117 = .ok (.getfield 23, 3) := by decide +kernel
theorem d_27_120 : decode (mth 27).2.1 120 = .ok (.iload 5, 2) := by decide +kernel
theorem d_27_122 : decode (mth 27).2.1 122 = .ok (.iconst 2, 1) := by decide +kernel
theorem d_27_123 : decode (mth 27).2.1 123 = .ok (.iadd, 1) := by decide +kernel
theorem d_27_124 : decode (mth 27).2.1 124 = .ok (.iaload, 1) := by decide +kernel
theorem d_27_125 : decode (mth 27).2.1 125 = .ok (.sipush 10000, 3) := by decide +kernel
theorem d_27_128 : decode (mth 27).2.1 128 = .ok (.isub, 1) := by decide +kernel
theorem d_27_129 : decode (mth 27).2.1 129 = .ok (.istore 9, 2) := by decide +kernel
theorem d_27_131 : decode (mth 27).2.1 131 = .ok (.iload 8, 2) := by decide +kernel
theorem d_27_133 : decode (mth 27).2.1 133 = .ok (.ifCond .lt 16, 3) := by decide +kernel
theorem d_27_136 : decode (mth 27).2.1 136 = .ok (.iload 8, 2) := by decide +kernel
theorem d_27_138 : decode (mth 27).2.1 138 = .ok (.iconst 5, 1) := by decide +kernel
theorem d_27_139 : decode (mth 27).2.1 139 = .ok (.if_icmp .ge 10, 3) := by decide +kernel
theorem d_27_142 : decode (mth 27).2.1 142 = .ok (.aload_n 3, 1) := by decide +kernel
theorem d_27_143 : decode (mth 27).2.1 143 = .ok (.iload 8, 2) := by decide +kernel
theorem d_27_145 : decode (mth 27).2.1 145 = .ok (.iaload, 1) := by decide +kernel
theorem d_27_146 : decode (mth 27).2.1 146 = .ok (.goto 12, 3) := by decide +kernel
theorem d_27_149 : decode (mth 27).2.1 149 = .ok (.aload_n 0, 1) := by decide +kernel
theorem d_27_150 : decode (mth 27).2.1 150 = .ok (.getfield 23, 3) := by decide +kernel
theorem d_27_153 : decode (mth 27).2.1 153 = .ok (.iload 5, 2) := by decide +kernel
theorem d_27_155 : decode (mth 27).2.1 155 = .ok (.iconst 1, 1) := by decide +kernel
theorem d_27_156 : decode (mth 27).2.1 156 = .ok (.iadd, 1) := by decide +kernel
theorem d_27_157 : decode (mth 27).2.1 157 = .ok (.iaload, 1) := by decide +kernel
theorem d_27_158 : decode (mth 27).2.1 158 = .ok (.istore 10, 2) := by decide +kernel
theorem d_27_160 : decode (mth 27).2.1 160 = .ok (.iload 9, 2) := by decide +kernel
theorem d_27_162 : decode (mth 27).2.1 162 = .ok (.ifCond .lt 16, 3) := by decide +kernel
theorem d_27_165 : decode (mth 27).2.1 165 = .ok (.iload 9, 2) := by decide +kernel
theorem d_27_167 : decode (mth 27).2.1 167 = .ok (.iconst 5, 1) := by decide +kernel
theorem d_27_168 : decode (mth 27).2.1 168 = .ok (.if_icmp .ge 10, 3) := by decide +kernel
theorem d_27_171 : decode (mth 27).2.1 171 = .ok (.aload_n 3, 1) := by decide +kernel
theorem d_27_172 : decode (mth 27).2.1 172 = .ok (.iload 9, 2) := by decide +kernel
theorem d_27_174 : decode (mth 27).2.1 174 = .ok (.iaload, 1) := by decide +kernel
theorem d_27_175 : decode (mth 27).2.1 175 = .ok (.goto 12, 3) := by decide +kernel
theorem d_27_178 : decode (mth 27).2.1 178 = .ok (.aload_n 0, 1) := by decide +kernel
theorem d_27_179 : decode (mth 27).2.1 179 = .ok (.getfield 23, 3) := by decide +kernel
theorem d_27_182 : decode (mth 27).2.1 182 = .ok (.iload 5, 2) := by decide +kernel
theorem d_27_184 : decode (mth 27).2.1 184 = .ok (.iconst 2, 1) := by decide +kernel
theorem d_27_185 : decode (mth 27).2.1 185 = .ok (.iadd, 1) := by decide +kernel
theorem d_27_186 : decode (mth 27).2.1 186 = .ok (.iaload, 1) := by decide +kernel
theorem d_27_187 : decode (mth 27).2.1 187 = .ok (.istore 11, 2) := by decide +kernel
theorem d_27_189 : decode (mth 27).2.1 189 = .ok (.iload 10, 2) := by decide +kernel
theorem d_27_191 : decode (mth 27).2.1 191 = .ok (.iload 11, 2) := by decide +kernel
theorem d_27_193 : decode (mth 27).2.1 193 = .ok (.if_icmp .ne 7, 3) := by decide +kernel
theorem d_27_196 : decode (mth 27).2.1 196 = .ok (.iconst 1, 1) := by decide +kernel
theorem d_27_197 : decode (mth 27).2.1 197 = .ok (.goto 4, 3) := by decide +kernel
theorem d_27_200 : decode (mth 27).2.1 200 = .ok (.iconst 0, 1) := by decide +kernel
theorem d_27_201 : decode (mth 27).2.1 201 = .ok (.istore 12, 2) := by decide +kernel
theorem d_27_203 : decode (mth 27).2.1 203 = .ok (.iload 6, 2) := by decide +kernel
theorem d_27_205 : decode (mth 27).2.1 205 = .ok (.bipush 20, 2) := by decide +kernel
theorem d_27_207 : decode (mth 27).2.1 207 = .ok (.if_icmp .ne 17, 3) := by decide +kernel
theorem d_27_210 : decode (mth 27).2.1 210 = .ok (.iload 10, 2) := by decide +kernel
theorem d_27_212 : decode (mth 27).2.1 212 = .ok (.iload 11, 2) := by decide +kernel
theorem d_27_214 : decode (mth 27).2.1 214 = .ok (.if_icmp .ge 7, 3) := by decide +kernel
theorem d_27_217 : decode (mth 27).2.1 217 = .ok (.iconst 1, 1) := by decide +kernel
theorem d_27_218 : decode (mth 27).2.1 218 = .ok (.goto 4, 3) := by decide +kernel
theorem d_27_221 : decode (mth 27).2.1 221 = .ok (.iconst 0, 1) := by decide +kernel
theorem d_27_222 : decode (mth 27).2.1 222 = .ok (.istore 12, 2) := by decide +kernel
theorem d_27_224 : decode (mth 27).2.1 224 = .ok (.iload 6, 2) := by decide +kernel
theorem d_27_226 : decode (mth 27).2.1 226 = .ok (.bipush 22, 2) := by decide +kernel
theorem d_27_228 : decode (mth 27).2.1 228 = .ok (.if_icmp .ne 17, 3) := by decide +kernel
theorem d_27_231 : decode (mth 27).2.1 231 = .ok (.iload 10, 2) := by decide +kernel
theorem d_27_233 : decode (mth 27).2.1 233 = .ok (.iload 11, 2) := by decide +kernel
theorem d_27_235 : decode (mth 27).2.1 235 = .ok (.if_icmp .le 7, 3) := by decide +kernel
theorem d_27_238 : decode (mth 27).2.1 238 = .ok (.iconst 1, 1) := by decide +kernel
theorem d_27_239 : decode (mth 27).2.1 239 = .ok (.goto 4, 3) := by decide +kernel
theorem d_27_242 : decode (mth 27).2.1 242 = .ok (.iconst 0, 1) := by decide +kernel
theorem d_27_243 : decode (mth 27).2.1 243 = .ok (.istore 12, 2) := by decide +kernel
theorem d_27_245 : decode (mth 27).2.1 245 = .ok (.iload 4, 2) := by decide +kernel
theorem d_27_247 : decode (mth 27).2.1 247 = .ok (.iconst 1, 1) := by decide +kernel
theorem d_27_248 : decode (mth 27).2.1 248 = .ok (.ishl, 1) := by decide +kernel
theorem d_27_249 : decode (mth 27).2.1 249 = .ok (.iload 12, 2) := by decide +kernel
theorem d_27_251 : decode (mth 27).2.1 251 = .ok (.ifCond .eq 7, 3) := by decide +kernel
theorem d_27_254 : decode (mth 27).2.1 254 = .ok (.iconst 1, 1) := by decide +kernel
theorem d_27_255 : decode (mth 27).2.1 255 = .ok (.goto 4, 3) := by decide +kernel
theorem d_27_258 : decode (mth 27).2.1 258 = .ok (.iconst 0, 1) := by decide +kernel
theorem d_27_259 : decode (mth 27).2.1 259 = .ok (.ior, 1) := by decide +kernel
theorem d_27_260 : decode (mth 27).2.1 260 = .ok (.istore 4, 2) := by decide +kernel
theorem d_27_262 : decode (mth 27).2.1 262 = .ok (.iinc 5 2, 3) := by decide +kernel
theorem d_27_265 : decode (mth 27).2.1 265 = .ok (.iinc 5 1, 3) := by decide +kernel
theorem d_27_268 : decode (mth 27).2.1 268 = .ok (.goto (-253), 3) := by decide +kernel
theorem d_27_271 : decode (mth 27).2.1 271 = .ok (.iload 4, 2) := by decide +kernel
theorem d_27_273 : decode (mth 27).2.1 273 = .ok (.iconst 1, 1) := by decide +kernel
theorem d_27_274 : decode (mth 27).2.1 274 = .ok (.iand, 1) := by decide +kernel
theorem d_27_275 : decode (mth 27).2.1 275 = .ok (.iconst 1, 1) := by decide +kernel
theorem d_27_276 : decode (mth 27).2.1 276 = .ok (.if_icmp .ne 7, 3) := by decide +kernel
theorem d_27_279 : decode (mth 27).2.1 279 = .ok (.iconst 1, 1) := by decide +kernel
theorem d_27_280 : decode (mth 27).2.1 280 = .ok (.goto 4, 3) := by decide +kernel
theorem d_27_283 : decode (mth 27).2.1 283 = .ok (.iconst 0, 1) := by decide +kernel
theorem d_27_284 : decode (mth 27).2.1 284 = .ok (.ireturn, 1) := by decide +kernel
/-! 65 PlayedTruth$Rules.clear()V -/
theorem d_65_0 : decode (mth 65).2.1 0 = .ok (.aload_n 0, 1) := by decide +kernel
theorem d_65_1 : decode (mth 65).2.1 1 = .ok (.iconst 0, 1) := by decide +kernel
theorem d_65_2 : decode (mth 65).2.1 2 = .ok (.putfield 26, 3) := by decide +kernel
theorem d_65_5 : decode (mth 65).2.1 5 = .ok (.aload_n 0, 1) := by decide +kernel
theorem d_65_6 : decode (mth 65).2.1 6 = .ok (.iconst 0, 1) := by decide +kernel
theorem d_65_7 : decode (mth 65).2.1 7 = .ok (.putfield 30, 3) := by decide +kernel
theorem d_65_10 : decode (mth 65).2.1 10 = .ok (.return_, 1) := by decide +kernel
/-! 76 PlayedTruth$Rules.addStep(I)V -/
theorem d_76_0 : decode (mth 76).2.1 0 = .ok (.aload_n 0, 1) := by decide +kernel
theorem d_76_1 : decode (mth 76).2.1 1 = .ok (.getfield 26, 3) := by decide +kernel
theorem d_76_4 : decode (mth 76).2.1 4 = .ok (.sipush 200, 3) := by decide +kernel
theorem d_76_7 : decode (mth 76).2.1 7 = .ok (.if_icmp .ge 20, 3) := by decide +kernel
theorem d_76_10 : decode (mth 76).2.1 10 = .ok (.aload_n 0, 1) := by decide +kernel
theorem d_76_11 : decode (mth 76).2.1 11 = .ok (.getfield 23, 3) := by decide +kernel
theorem d_76_14 : decode (mth 76).2.1 14 = .ok (.aload_n 0, 1) := by decide +kernel
theorem d_76_15 : decode (mth 76).2.1 15 = .ok (.dup, 1) := by decide +kernel
theorem d_76_16 : decode (mth 76).2.1 16 = .ok (.getfield 26, 3) := by decide +kernel
theorem d_76_19 : decode (mth 76).2.1 19 = .ok (.dup_x1, 1) := by decide +kernel
theorem d_76_20 : decode (mth 76).2.1 20 = .ok (.iconst 1, 1) := by decide +kernel
theorem d_76_21 : decode (mth 76).2.1 21 = .ok (.iadd, 1) := by decide +kernel
theorem d_76_22 : decode (mth 76).2.1 22 = .ok (.putfield 26, 3) := by decide +kernel
theorem d_76_25 : decode (mth 76).2.1 25 = .ok (.iload_n 1, 1) := by decide +kernel
theorem d_76_26 : decode (mth 76).2.1 26 = .ok (.iastore, 1) := by decide +kernel
theorem d_76_27 : decode (mth 76).2.1 27 = .ok (.return_, 1) := by decide +kernel
/-! 77 PlayedTruth$Rules.addRule(II)V -/
theorem d_77_0 : decode (mth 77).2.1 0 = .ok (.aload_n 0, 1) := by decide +kernel
theorem d_77_1 : decode (mth 77).2.1 1 = .ok (.getfield 30, 3) := by decide +kernel
theorem d_77_4 : decode (mth 77).2.1 4 = .ok (.bipush 8, 2) := by decide +kernel
theorem d_77_6 : decode (mth 77).2.1 6 = .ok (.if_icmp .lt 4, 3) := by decide +kernel
theorem d_77_9 : decode (mth 77).2.1 9 = .ok (.return_, 1) := by decide +kernel
theorem d_77_10 : decode (mth 77).2.1 10 = .ok (.aload_n 0, 1) := by decide +kernel
theorem d_77_11 : decode (mth 77).2.1 11 = .ok (.getfield 13, 3) := by decide +kernel
theorem d_77_14 : decode (mth 77).2.1 14 = .ok (.aload_n 0, 1) := by decide +kernel
theorem d_77_15 : decode (mth 77).2.1 15 = .ok (.getfield 30, 3) := by decide +kernel
theorem d_77_18 : decode (mth 77).2.1 18 = .ok (.iload_n 1, 1) := by decide +kernel
theorem d_77_19 : decode (mth 77).2.1 19 = .ok (.iastore, 1) := by decide +kernel
theorem d_77_20 : decode (mth 77).2.1 20 = .ok (.aload_n 0, 1) := by decide +kernel
theorem d_77_21 : decode (mth 77).2.1 21 = .ok (.getfield 17, 3) := by decide +kernel
theorem d_77_24 : decode (mth 77).2.1 24 = .ok (.aload_n 0, 1) := by decide +kernel
theorem d_77_25 : decode (mth 77).2.1 25 = .ok (.getfield 30, 3) := by decide +kernel
theorem d_77_28 : decode (mth 77).2.1 28 = .ok (.iload_n 2, 1) := by decide +kernel
theorem d_77_29 : decode (mth 77).2.1 29 = .ok (.iastore, 1) := by decide +kernel
theorem d_77_30 : decode (mth 77).2.1 30 = .ok (.aload_n 0, 1) := by decide +kernel
theorem d_77_31 : decode (mth 77).2.1 31 = .ok (.getfield 20, 3) := by decide +kernel
theorem d_77_34 : decode (mth 77).2.1 34 = .ok (.aload_n 0, 1) := by decide +kernel
theorem d_77_35 : decode (mth 77).2.1 35 = .ok (.getfield 30, 3) := by decide +kernel
theorem d_77_38 : decode (mth 77).2.1 38 = .ok (.aload_n 0, 1) := by decide +kernel
theorem d_77_39 : decode (mth 77).2.1 39 = .ok (.getfield 26, 3) := by decide +kernel
theorem d_77_42 : decode (mth 77).2.1 42 = .ok (.iastore, 1) := by decide +kernel
theorem d_77_43 : decode (mth 77).2.1 43 = .ok (.aload_n 0, 1) := by decide +kernel
theorem d_77_44 : decode (mth 77).2.1 44 = .ok (.dup, 1) := by decide +kernel
theorem d_77_45 : decode (mth 77).2.1 45 = .ok (.getfield 30, 3) := by decide +kernel
theorem d_77_48 : decode (mth 77).2.1 48 = .ok (.iconst 1, 1) := by decide +kernel
theorem d_77_49 : decode (mth 77).2.1 49 = .ok (.iadd, 1) := by decide +kernel
theorem d_77_50 : decode (mth 77).2.1 50 = .ok (.putfield 30, 3) := by decide +kernel
theorem d_77_53 : decode (mth 77).2.1 53 = .ok (.return_, 1) := by decide +kernel
/-! 78 PlayedTruth$Rules.copyFrom(LPlayedTruth$Rules;)V -/
theorem d_78_0 : decode (mth 78).2.1 0 = .ok (.aload_n 1, 1) := by decide +kernel
theorem d_78_1 : decode (mth 78).2.1 1 = .ok (.getfield 13, 3) := by decide +kernel
theorem d_78_4 : decode (mth 78).2.1 4 = .ok (.iconst 0, 1) := by decide +kernel
theorem d_78_5 : decode (mth 78).2.1 5 = .ok (.aload_n 0, 1) := by decide +kernel
theorem d_78_6 : decode (mth 78).2.1 6 = .ok (.getfield 13, 3) := by decide +kernel
theorem d_78_9 : decode (mth 78).2.1 9 = .ok (.iconst 0, 1) := by decide +kernel
theorem d_78_10 : decode (mth 78).2.1 10 = .ok (.bipush 8, 2) := by decide +kernel
theorem d_78_12 : decode (mth 78).2.1 12 = .ok (.invokestatic 33, 3) := by decide +kernel
theorem d_78_15 : decode (mth 78).2.1 15 = .ok (.aload_n 1, 1) := by decide +kernel
theorem d_78_16 : decode (mth 78).2.1 16 = .ok (.getfield 17, 3) := by decide +kernel
theorem d_78_19 : decode (mth 78).2.1 19 = .ok (.iconst 0, 1) := by decide +kernel
theorem d_78_20 : decode (mth 78).2.1 20 = .ok (.aload_n 0, 1) := by decide +kernel
theorem d_78_21 : decode (mth 78).2.1 21 = .ok (.getfield 17, 3) := by decide +kernel
theorem d_78_24 : decode (mth 78).2.1 24 = .ok (.iconst 0, 1) := by decide +kernel
theorem d_78_25 : decode (mth 78).2.1 25 = .ok (.bipush 8, 2) := by decide +kernel
theorem d_78_27 : decode (mth 78).2.1 27 = .ok (.invokestatic 33, 3) := by decide +kernel
theorem d_78_30 : decode (mth 78).2.1 30 = .ok (.aload_n 1, 1) := by decide +kernel
theorem d_78_31 : decode (mth 78).2.1 31 = .ok (.getfield 20, 3) := by decide +kernel
theorem d_78_34 : decode (mth 78).2.1 34 = .ok (.iconst 0, 1) := by decide +kernel
theorem d_78_35 : decode (mth 78).2.1 35 = .ok (.aload_n 0, 1) := by decide +kernel
theorem d_78_36 : decode (mth 78).2.1 36 = .ok (.getfield 20, 3) := by decide +kernel
theorem d_78_39 : decode (mth 78).2.1 39 = .ok (.iconst 0, 1) := by decide +kernel
theorem d_78_40 : decode (mth 78).2.1 40 = .ok (.bipush 8, 2) := by decide +kernel
theorem d_78_42 : decode (mth 78).2.1 42 = .ok (.invokestatic 33, 3) := by decide +kernel
theorem d_78_45 : decode (mth 78).2.1 45 = .ok (.aload_n 1, 1) := by decide +kernel
theorem d_78_46 : decode (mth 78).2.1 46 = .ok (.getfield 23, 3) := by decide +kernel
theorem d_78_49 : decode (mth 78).2.1 49 = .ok (.iconst 0, 1) := by decide +kernel
theorem d_78_50 : decode (mth 78).2.1 50 = .ok (.aload_n 0, 1) := by decide +kernel
theorem d_78_51 : decode (mth 78).2.1 51 = .ok (.getfield 23, 3) := by decide +kernel
theorem d_78_54 : decode (mth 78).2.1 54 = .ok (.iconst 0, 1) := by decide +kernel
theorem d_78_55 : decode (mth 78).2.1 55 = .ok (.sipush 200, 3) := by decide +kernel
theorem d_78_58 : decode (mth 78).2.1 58 = .ok (.invokestatic 33, 3) := by decide +kernel
theorem d_78_61 : decode (mth 78).2.1 61 = .ok (.aload_n 0, 1) := by decide +kernel
theorem d_78_62 : decode (mth 78).2.1 62 = .ok (.aload_n 1, 1) := by decide +kernel
theorem d_78_63 : decode (mth 78).2.1 63 = .ok (.getfield 26, 3) := by decide +kernel
theorem d_78_66 : decode (mth 78).2.1 66 = .ok (.putfield 26, 3) := by decide +kernel
theorem d_78_69 : decode (mth 78).2.1 69 = .ok (.aload_n 0, 1) := by decide +kernel
theorem d_78_70 : decode (mth 78).2.1 70 = .ok (.aload_n 1, 1) := by decide +kernel
theorem d_78_71 : decode (mth 78).2.1 71 = .ok (.getfield 30, 3) := by decide +kernel
theorem d_78_74 : decode (mth 78).2.1 74 = .ok (.putfield 30, 3) := by decide +kernel
theorem d_78_77 : decode (mth 78).2.1 77 = .ok (.return_, 1) := by decide +kernel
