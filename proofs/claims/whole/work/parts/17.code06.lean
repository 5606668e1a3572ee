theorem dX10_digest_25 : decode cX10_digest 25 = .ok (.iinc 3 1, 3) := by decide +kernel
theorem dX10_digest_28 : decode cX10_digest 28 = .ok (.goto (-22), 3) := by decide +kernel
theorem dX10_digest_31 : decode cX10_digest 31 = .ok (.iconst 0, 1) := by decide +kernel
theorem dX10_digest_32 : decode cX10_digest 32 = .ok (.istore_n 3, 1) := by decide +kernel
theorem dX10_digest_33 : decode cX10_digest 33 = .ok (.iload_n 3, 1) := by decide +kernel
theorem dX10_digest_34 : decode cX10_digest 34 = .ok (.aload_n 0, 1) := by decide +kernel
theorem dX10_digest_35 : decode cX10_digest 35 = .ok (.getfield 72, 3) := by decide +kernel
theorem dX10_digest_38 : decode cX10_digest 38 = .ok (.getfield 144, 3) := by decide +kernel
theorem dX10_digest_41 : decode cX10_digest 41 = .ok (.if_icmp .ge 39, 3) := by decide +kernel
theorem dX10_digest_44 : decode cX10_digest 44 = .ok (.iconst 0, 1) := by decide +kernel
theorem dX10_digest_45 : decode cX10_digest 45 = .ok (.istore 4, 2) := by decide +kernel
theorem dX10_digest_47 : decode cX10_digest 47 = .ok (.iload 4, 2) := by decide +kernel
theorem dX10_digest_49 : decode cX10_digest 49 = .ok (.iconst 5, 1) := by decide +kernel
theorem dX10_digest_50 : decode cX10_digest 50 = .ok (.if_icmp .ge 24, 3) := by decide +kernel
theorem dX10_digest_53 : decode cX10_digest 53 = .ok (.ldc2_w 363, 3) := by decide +kernel
theorem dX10_digest_56 : decode cX10_digest 56 = .ok (.lload_n 1, 1) := by decide +kernel
theorem dX10_digest_57 : decode cX10_digest 57 = .ok (.lmul, 1) := by decide +kernel
theorem dX10_digest_58 : decode cX10_digest 58 = .ok (.aload_n 0, 1) := by decide +kernel
theorem dX10_digest_59 : decode cX10_digest 59 = .ok (.iload_n 3, 1) := by decide +kernel
theorem dX10_digest_60 : decode cX10_digest 60 = .ok (.iload 4, 2) := by decide +kernel
theorem dX10_digest_62 : decode cX10_digest 62 = .ok (.invokevirtual 151, 3) := by decide +kernel
theorem dX10_digest_65 : decode cX10_digest 65 = .ok (.i2l, 1) := by decide +kernel
theorem dX10_digest_66 : decode cX10_digest 66 = .ok (.ladd, 1) := by decide +kernel
theorem dX10_digest_67 : decode cX10_digest 67 = .ok (.lstore_n 1, 1) := by decide +kernel
theorem dX10_digest_68 : decode cX10_digest 68 = .ok (.iinc 4 1, 3) := by decide +kernel
theorem dX10_digest_71 : decode cX10_digest 71 = .ok (.goto (-24), 3) := by decide +kernel
theorem dX10_digest_74 : decode cX10_digest 74 = .ok (.iinc 3 1, 3) := by decide +kernel
theorem dX10_digest_77 : decode cX10_digest 77 = .ok (.goto (-44), 3) := by decide +kernel
theorem dX10_digest_80 : decode cX10_digest 80 = .ok (.iconst 0, 1) := by decide +kernel
theorem dX10_digest_81 : decode cX10_digest 81 = .ok (.istore_n 3, 1) := by decide +kernel
theorem dX10_digest_82 : decode cX10_digest 82 = .ok (.iload_n 3, 1) := by decide +kernel
theorem dX10_digest_83 : decode cX10_digest 83 = .ok (.iconst 5, 1) := by decide +kernel
theorem dX10_digest_84 : decode cX10_digest 84 = .ok (.if_icmp .ge 39, 3) := by decide +kernel
theorem dX10_digest_87 : decode cX10_digest 87 = .ok (.iconst 0, 1) := by decide +kernel
theorem dX10_digest_88 : decode cX10_digest 88 = .ok (.istore 4, 2) := by decide +kernel
theorem dX10_digest_90 : decode cX10_digest 90 = .ok (.iload 4, 2) := by decide +kernel
theorem dX10_digest_92 : decode cX10_digest 92 = .ok (.iconst 4, 1) := by decide +kernel
theorem dX10_digest_93 : decode cX10_digest 93 = .ok (.if_icmp .ge 24, 3) := by decide +kernel
theorem dX10_digest_96 : decode cX10_digest 96 = .ok (.ldc2_w 363, 3) := by decide +kernel
theorem dX10_digest_99 : decode cX10_digest 99 = .ok (.lload_n 1, 1) := by decide +kernel
theorem dX10_digest_100 : decode cX10_digest 100 = .ok (.lmul, 1) := by decide +kernel
theorem dX10_digest_101 : decode cX10_digest 101 = .ok (.aload_n 0, 1) := by decide +kernel
theorem dX10_digest_102 : decode cX10_digest 102 = .ok (.iload_n 3, 1) := by decide +kernel
theorem dX10_digest_103 : decode cX10_digest 103 = .ok (.iload 4, 2) := by decide +kernel
theorem dX10_digest_105 : decode cX10_digest 105 = .ok (.invokevirtual 181, 3) := by decide +kernel
theorem dX10_digest_108 : decode cX10_digest 108 = .ok (.i2l, 1) := by decide +kernel
theorem dX10_digest_109 : decode cX10_digest 109 = .ok (.ladd, 1) := by decide +kernel
theorem dX10_digest_110 : decode cX10_digest 110 = .ok (.lstore_n 1, 1) := by decide +kernel
theorem dX10_digest_111 : decode cX10_digest 111 = .ok (.iinc 4 1, 3) := by decide +kernel
theorem dX10_digest_114 : decode cX10_digest 114 = .ok (.goto (-24), 3) := by decide +kernel
theorem dX10_digest_117 : decode cX10_digest 117 = .ok (.iinc 3 1, 3) := by decide +kernel
theorem dX10_digest_120 : decode cX10_digest 120 = .ok (.goto (-38), 3) := by decide +kernel
theorem dX10_digest_123 : decode cX10_digest 123 = .ok (.iconst 0, 1) := by decide +kernel
theorem dX10_digest_124 : decode cX10_digest 124 = .ok (.istore_n 3, 1) := by decide +kernel
theorem dX10_digest_125 : decode cX10_digest 125 = .ok (.iload_n 3, 1) := by decide +kernel
theorem dX10_digest_126 : decode cX10_digest 126 = .ok (.aload_n 0, 1) := by decide +kernel
theorem dX10_digest_127 : decode cX10_digest 127 = .ok (.getfield 55, 3) := by decide +kernel
theorem dX10_digest_130 : decode cX10_digest 130 = .ok (.getfield 143, 3) := by decide +kernel
theorem dX10_digest_133 : decode cX10_digest 133 = .ok (.if_icmp .ge 43, 3) := by decide +kernel
theorem dX10_digest_136 : decode cX10_digest 136 = .ok (.ldc2_w 363, 3) := by decide +kernel
theorem dX10_digest_139 : decode cX10_digest 139 = .ok (.lload_n 1, 1) := by decide +kernel
theorem dX10_digest_140 : decode cX10_digest 140 = .ok (.lmul, 1) := by decide +kernel
theorem dX10_digest_141 : decode cX10_digest 141 = .ok (.aload_n 0, 1) := by decide +kernel
theorem dX10_digest_142 : decode cX10_digest 142 = .ok (.getfield 55, 3) := by decide +kernel
theorem dX10_digest_145 : decode cX10_digest 145 = .ok (.getfield 368, 3) := by decide +kernel
theorem dX10_digest_148 : decode cX10_digest 148 = .ok (.iload_n 3, 1) := by decide +kernel
theorem dX10_digest_149 : decode cX10_digest 149 = .ok (.iaload, 1) := by decide +kernel
theorem dX10_digest_150 : decode cX10_digest 150 = .ok (.i2l, 1) := by decide +kernel
theorem dX10_digest_151 : decode cX10_digest 151 = .ok (.ladd, 1) := by decide +kernel
theorem dX10_digest_152 : decode cX10_digest 152 = .ok (.lstore_n 1, 1) := by decide +kernel
theorem dX10_digest_153 : decode cX10_digest 153 = .ok (.ldc2_w 363, 3) := by decide +kernel
theorem dX10_digest_156 : decode cX10_digest 156 = .ok (.lload_n 1, 1) := by decide +kernel
theorem dX10_digest_157 : decode cX10_digest 157 = .ok (.lmul, 1) := by decide +kernel
theorem dX10_digest_158 : decode cX10_digest 158 = .ok (.aload_n 0, 1) := by decide +kernel
theorem dX10_digest_159 : decode cX10_digest 159 = .ok (.getfield 55, 3) := by decide +kernel
theorem dX10_digest_162 : decode cX10_digest 162 = .ok (.getfield 371, 3) := by decide +kernel
theorem dX10_digest_165 : decode cX10_digest 165 = .ok (.iload_n 3, 1) := by decide +kernel
theorem dX10_digest_166 : decode cX10_digest 166 = .ok (.iaload, 1) := by decide +kernel
theorem dX10_digest_167 : decode cX10_digest 167 = .ok (.i2l, 1) := by decide +kernel
theorem dX10_digest_168 : decode cX10_digest 168 = .ok (.ladd, 1) := by decide +kernel
theorem dX10_digest_169 : decode cX10_digest 169 = .ok (.lstore_n 1, 1) := by decide +kernel
theorem dX10_digest_170 : decode cX10_digest 170 = .ok (.iinc 3 1, 3) := by decide +kernel
theorem dX10_digest_173 : decode cX10_digest 173 = .ok (.goto (-48), 3) := by decide +kernel
theorem dX10_digest_176 : decode cX10_digest 176 = .ok (.iconst 0, 1) := by decide +kernel
theorem dX10_digest_177 : decode cX10_digest 177 = .ok (.istore_n 3, 1) := by decide +kernel
theorem dX10_digest_178 : decode cX10_digest 178 = .ok (.iload_n 3, 1) := by decide +kernel
theorem dX10_digest_179 : decode cX10_digest 179 = .ok (.iconst 3, 1) := by decide +kernel
theorem dX10_digest_180 : decode cX10_digest 180 = .ok (.if_icmp .ge 23, 3) := by decide +kernel
theorem dX10_digest_183 : decode cX10_digest 183 = .ok (.ldc2_w 363, 3) := by decide +kernel
theorem dX10_digest_186 : decode cX10_digest 186 = .ok (.lload_n 1, 1) := by decide +kernel
theorem dX10_digest_187 : decode cX10_digest 187 = .ok (.lmul, 1) := by decide +kernel
theorem dX10_digest_188 : decode cX10_digest 188 = .ok (.aload_n 0, 1) := by decide +kernel
theorem dX10_digest_189 : decode cX10_digest 189 = .ok (.getfield 48, 3) := by decide +kernel
theorem dX10_digest_192 : decode cX10_digest 192 = .ok (.iload_n 3, 1) := by decide +kernel
theorem dX10_digest_193 : decode cX10_digest 193 = .ok (.iaload, 1) := by decide +kernel
theorem dX10_digest_194 : decode cX10_digest 194 = .ok (.i2l, 1) := by decide +kernel
theorem dX10_digest_195 : decode cX10_digest 195 = .ok (.ladd, 1) := by decide +kernel
theorem dX10_digest_196 : decode cX10_digest 196 = .ok (.lstore_n 1, 1) := by decide +kernel
theorem dX10_digest_197 : decode cX10_digest 197 = .ok (.iinc 3 1, 3) := by decide +kernel
theorem dX10_digest_200 : decode cX10_digest 200 = .ok (.goto (-22), 3) := by decide +kernel
theorem dX10_digest_203 : decode cX10_digest 203 = .ok (.lload_n 1, 1) := by decide +kernel
theorem dX10_digest_204 : decode cX10_digest 204 = .ok (.aload_n 0, 1) := by decide +kernel
theorem dX10_digest_205 : decode cX10_digest 205 = .ok (.getfield 11, 3) := by decide +kernel
theorem dX10_digest_208 : decode cX10_digest 208 = .ok (.invokestatic 372, 3) := by decide +kernel
theorem dX10_digest_211 : decode cX10_digest 211 = .ok (.aload_n 0, 1) := by decide +kernel
theorem dX10_digest_212 : decode cX10_digest 212 = .ok (.getfield 15, 3) := by decide +kernel
theorem dX10_digest_215 : decode cX10_digest 215 = .ok (.invokestatic 372, 3) := by decide +kernel
theorem dX10_digest_218 : decode cX10_digest 218 = .ok (.lreturn, 1) := by decide +kernel
theorem dX10_isWithin_0 : decode cX10_isWithin 0 = .ok (.iload_n 0, 1) := by decide +kernel
theorem dX10_isWithin_1 : decode cX10_isWithin 1 = .ok (.iload_n 1, 1) := by decide +kernel
theorem dX10_isWithin_2 : decode cX10_isWithin 2 = .ok (.if_icmp .lt 12, 3) := by decide +kernel
theorem dX10_isWithin_5 : decode cX10_isWithin 5 = .ok (.iload_n 0, 1) := by decide +kernel
theorem dX10_isWithin_6 : decode cX10_isWithin 6 = .ok (.iload_n 2, 1) := by decide +kernel
theorem dX10_isWithin_7 : decode cX10_isWithin 7 = .ok (.if_icmp .gt 7, 3) := by decide +kernel
theorem dX10_isWithin_10 : decode cX10_isWithin 10 = .ok (.iconst 1, 1) := by decide +kernel
theorem dX10_isWithin_11 : decode cX10_isWithin 11 = .ok (.goto 4, 3) := by decide +kernel
theorem dX10_isWithin_14 : decode cX10_isWithin 14 = .ok (.iconst 0, 1) := by decide +kernel
theorem dX10_isWithin_15 : decode cX10_isWithin 15 = .ok (.ireturn, 1) := by decide +kernel
theorem dX10_isJar_0 : decode cX10_isJar 0 = .ok (.iload_n 1, 1) := by decide +kernel
theorem dX10_isJar_1 : decode cX10_isJar 1 = .ok (.iconst 0, 1) := by decide +kernel
theorem dX10_isJar_2 : decode cX10_isJar 2 = .ok (.aload_n 0, 1) := by decide +kernel
theorem dX10_isJar_3 : decode cX10_isJar 3 = .ok (.getfield 72, 3) := by decide +kernel
theorem dX10_isJar_6 : decode cX10_isJar 6 = .ok (.getfield 144, 3) := by decide +kernel
theorem dX10_isJar_9 : decode cX10_isJar 9 = .ok (.iconst 1, 1) := by decide +kernel
theorem dX10_isJar_10 : decode cX10_isJar 10 = .ok (.isub, 1) := by decide +kernel
theorem dX10_isJar_11 : decode cX10_isJar 11 = .ok (.invokestatic 86, 3) := by decide +kernel
theorem dX10_isJar_14 : decode cX10_isJar 14 = .ok (.ireturn, 1) := by decide +kernel
theorem dX10_isPlace_0 : decode cX10_isPlace 0 = .ok (.iload_n 0, 1) := by decide +kernel
theorem dX10_isPlace_1 : decode cX10_isPlace 1 = .ok (.iconst 0, 1) := by decide +kernel
theorem dX10_isPlace_2 : decode cX10_isPlace 2 = .ok (.iconst 4, 1) := by decide +kernel
theorem dX10_isPlace_3 : decode cX10_isPlace 3 = .ok (.invokestatic 86, 3) := by decide +kernel
theorem dX10_isPlace_6 : decode cX10_isPlace 6 = .ok (.ireturn, 1) := by decide +kernel
theorem dX10_isValley_0 : decode cX10_isValley 0 = .ok (.iload_n 0, 1) := by decide +kernel
theorem dX10_isValley_1 : decode cX10_isValley 1 = .ok (.invokestatic 178, 3) := by decide +kernel
theorem dX10_isValley_4 : decode cX10_isValley 4 = .ok (.ifCond .eq 11, 3) := by decide +kernel
theorem dX10_isValley_7 : decode cX10_isValley 7 = .ok (.iload_n 0, 1) := by decide +kernel
theorem dX10_isValley_8 : decode cX10_isValley 8 = .ok (.ifCond .eq 7, 3) := by decide +kernel
theorem dX10_isValley_11 : decode cX10_isValley 11 = .ok (.iconst 1, 1) := by decide +kernel
theorem dX10_isValley_12 : decode cX10_isValley 12 = .ok (.goto 4, 3) := by decide +kernel
theorem dX10_isValley_15 : decode cX10_isValley 15 = .ok (.iconst 0, 1) := by decide +kernel
theorem dX10_isValley_16 : decode cX10_isValley 16 = .ok (.ireturn, 1) := by decide +kernel
theorem dX10_find_0 : decode cX10_find 0 = .ok (.aload_n 0, 1) := by decide +kernel
theorem dX10_find_1 : decode cX10_find 1 = .ok (.iload_n 1, 1) := by decide +kernel
theorem dX10_find_2 : decode cX10_find 2 = .ok (.putfield 358, 3) := by decide +kernel
theorem dX10_find_5 : decode cX10_find 5 = .ok (.aload_n 0, 1) := by decide +kernel
theorem dX10_find_6 : decode cX10_find 6 = .ok (.getfield 66, 3) := by decide +kernel
theorem dX10_find_9 : decode cX10_find 9 = .ok (.iload_n 1, 1) := by decide +kernel
theorem dX10_find_10 : decode cX10_find 10 = .ok (.dup2, 1) := by decide +kernel
theorem dX10_find_11 : decode cX10_find 11 = .ok (.iaload, 1) := by decide +kernel
theorem dX10_find_12 : decode cX10_find 12 = .ok (.iconst 1, 1) := by decide +kernel
theorem dX10_find_13 : decode cX10_find 13 = .ok (.iadd, 1) := by decide +kernel
theorem dX10_find_14 : decode cX10_find 14 = .ok (.iastore, 1) := by decide +kernel
theorem dX10_find_15 : decode cX10_find 15 = .ok (.bipush (-3), 2) := by decide +kernel
theorem dX10_find_17 : decode cX10_find 17 = .ok (.ireturn, 1) := by decide +kernel
theorem dX10_tell_0 : decode cX10_tell 0 = .ok (.aload_n 0, 1) := by decide +kernel
theorem dX10_tell_1 : decode cX10_tell 1 = .ok (.iload_n 2, 1) := by decide +kernel
theorem dX10_tell_2 : decode cX10_tell 2 = .ok (.putfield 339, 3) := by decide +kernel
theorem dX10_tell_5 : decode cX10_tell 5 = .ok (.iload_n 1, 1) := by decide +kernel
theorem dX10_tell_6 : decode cX10_tell 6 = .ok (.ireturn, 1) := by decide +kernel
theorem dX10_refuseRow_0 : decode cX10_refuseRow 0 = .ok (.iload_n 2, 1) := by decide +kernel
theorem dX10_refuseRow_1 : decode cX10_refuseRow 1 = .ok (.iconst 0, 1) := by decide +kernel
theorem dX10_refuseRow_2 : decode cX10_refuseRow 2 = .ok (.aload_n 1, 1) := by decide +kernel
theorem dX10_refuseRow_3 : decode cX10_refuseRow 3 = .ok (.arraylength, 1) := by decide +kernel
theorem dX10_refuseRow_4 : decode cX10_refuseRow 4 = .ok (.iconst 1, 1) := by decide +kernel
theorem dX10_refuseRow_5 : decode cX10_refuseRow 5 = .ok (.isub, 1) := by decide +kernel
theorem dX10_refuseRow_6 : decode cX10_refuseRow 6 = .ok (.invokestatic 86, 3) := by decide +kernel
theorem dX10_refuseRow_9 : decode cX10_refuseRow 9 = .ok (.ifCond .ne 5, 3) := by decide +kernel
theorem dX10_refuseRow_12 : decode cX10_refuseRow 12 = .ok (.iconst (-1), 1) := by decide +kernel
theorem dX10_refuseRow_13 : decode cX10_refuseRow 13 = .ok (.ireturn, 1) := by decide +kernel
theorem dX10_refuseRow_14 : decode cX10_refuseRow 14 = .ok (.aload_n 1, 1) := by decide +kernel
theorem dX10_refuseRow_15 : decode cX10_refuseRow 15 = .ok (.iload_n 2, 1) := by decide +kernel
theorem dX10_refuseRow_16 : decode cX10_refuseRow 16 = .ok (.aaload, 1) := by decide +kernel
theorem dX10_refuseRow_17 : decode cX10_refuseRow 17 = .ok (.invokevirtual 117, 3) := by decide +kernel
theorem dX10_refuseRow_20 : decode cX10_refuseRow 20 = .ok (.ifCond .eq 7, 3) := by decide +kernel
theorem dX10_refuseRow_23 : decode cX10_refuseRow 23 = .ok (.iconst 0, 1) := by decide +kernel
theorem dX10_refuseRow_24 : decode cX10_refuseRow 24 = .ok (.goto 8, 3) := by decide +kernel
theorem dX10_refuseRow_27 : decode cX10_refuseRow 27 = .ok (.aload_n 0, 1) := by decide +kernel
theorem dX10_refuseRow_28 : decode cX10_refuseRow 28 = .ok (.iconst 1, 1) := by decide +kernel
theorem dX10_refuseRow_29 : decode cX10_refuseRow 29 = .ok (.invokevirtual 113, 3) := by decide +kernel
theorem dX10_refuseRow_32 : decode cX10_refuseRow 32 = .ok (.ireturn, 1) := by decide +kernel
theorem dX10_refusePlace_0 : decode cX10_refusePlace 0 = .ok (.aload_n 0, 1) := by decide +kernel
theorem dX10_refusePlace_1 : decode cX10_refusePlace 1 = .ok (.aload_n 1, 1) := by decide +kernel
theorem dX10_refusePlace_2 : decode cX10_refusePlace 2 = .ok (.iload_n 2, 1) := by decide +kernel
theorem dX10_refusePlace_3 : decode cX10_refusePlace 3 = .ok (.invokevirtual 105, 3) := by decide +kernel
theorem dX10_refusePlace_6 : decode cX10_refusePlace 6 = .ok (.istore 4, 2) := by decide +kernel
theorem dX10_refusePlace_8 : decode cX10_refusePlace 8 = .ok (.iload 4, 2) := by decide +kernel
theorem dX10_refusePlace_10 : decode cX10_refusePlace 10 = .ok (.ifCond .eq 6, 3) := by decide +kernel
theorem dX10_refusePlace_13 : decode cX10_refusePlace 13 = .ok (.iload 4, 2) := by decide +kernel
theorem dX10_refusePlace_15 : decode cX10_refusePlace 15 = .ok (.ireturn, 1) := by decide +kernel
theorem dX10_refusePlace_16 : decode cX10_refusePlace 16 = .ok (.aload_n 1, 1) := by decide +kernel
theorem dX10_refusePlace_17 : decode cX10_refusePlace 17 = .ok (.iload_n 2, 1) := by decide +kernel
theorem dX10_refusePlace_18 : decode cX10_refusePlace 18 = .ok (.aaload, 1) := by decide +kernel
theorem dX10_refusePlace_19 : decode cX10_refusePlace 19 = .ok (.iload_n 3, 1) := by decide +kernel
theorem dX10_refusePlace_20 : decode cX10_refusePlace 20 = .ok (.invokevirtual 376, 3) := by decide +kernel
theorem dX10_refusePlace_23 : decode cX10_refusePlace 23 = .ok (.ifCond .eq 7, 3) := by decide +kernel
theorem dX10_refusePlace_26 : decode cX10_refusePlace 26 = .ok (.iconst 0, 1) := by decide +kernel
theorem dX10_refusePlace_27 : decode cX10_refusePlace 27 = .ok (.goto 8, 3) := by decide +kernel
theorem dX10_refusePlace_30 : decode cX10_refusePlace 30 = .ok (.aload_n 0, 1) := by decide +kernel
theorem dX10_refusePlace_31 : decode cX10_refusePlace 31 = .ok (.iconst 2, 1) := by decide +kernel
theorem dX10_refusePlace_32 : decode cX10_refusePlace 32 = .ok (.invokevirtual 113, 3) := by decide +kernel
theorem dX10_refusePlace_35 : decode cX10_refusePlace 35 = .ok (.ireturn, 1) := by decide +kernel
theorem dX10_makeRow_0 : decode cX10_makeRow 0 = .ok (.iload_n 2, 1) := by decide +kernel
theorem dX10_makeRow_1 : decode cX10_makeRow 1 = .ok (.bipush 60, 2) := by decide +kernel
theorem dX10_makeRow_3 : decode cX10_makeRow 3 = .ok (.if_icmp .le 5, 3) := by decide +kernel
theorem dX10_makeRow_6 : decode cX10_makeRow 6 = .ok (.iconst (-1), 1) := by decide +kernel
theorem dX10_makeRow_7 : decode cX10_makeRow 7 = .ok (.ireturn, 1) := by decide +kernel
theorem dX10_makeRow_8 : decode cX10_makeRow 8 = .ok (.iload_n 2, 1) := by decide +kernel
theorem dX10_makeRow_9 : decode cX10_makeRow 9 = .ok (.ifCond .ge 9, 3) := by decide +kernel
theorem dX10_makeRow_12 : decode cX10_makeRow 12 = .ok (.aload_n 0, 1) := by decide +kernel
theorem dX10_makeRow_13 : decode cX10_makeRow 13 = .ok (.iconst 5, 1) := by decide +kernel
theorem dX10_makeRow_14 : decode cX10_makeRow 14 = .ok (.invokevirtual 113, 3) := by decide +kernel
theorem dX10_makeRow_17 : decode cX10_makeRow 17 = .ok (.ireturn, 1) := by decide +kernel
theorem dX10_makeRow_18 : decode cX10_makeRow 18 = .ok (.aload_n 1, 1) := by decide +kernel
theorem dX10_makeRow_19 : decode cX10_makeRow 19 = .ok (.iload_n 2, 1) := by decide +kernel
theorem dX10_makeRow_20 : decode cX10_makeRow 20 = .ok (.iload_n 3, 1) := by decide +kernel
theorem dX10_makeRow_21 : decode cX10_makeRow 21 = .ok (.invokevirtual 379, 3) := by decide +kernel
theorem dX10_makeRow_24 : decode cX10_makeRow 24 = .ok (.iload_n 2, 1) := by decide +kernel
theorem dX10_makeRow_25 : decode cX10_makeRow 25 = .ok (.ireturn, 1) := by decide +kernel
theorem dX10_jarTells_0 : decode cX10_jarTells 0 = .ok (.iload_n 2, 1) := by decide +kernel
theorem dX10_jarTells_1 : decode cX10_jarTells 1 = .ok (.tableswitch 71 0 3 #[31, 41, 51, 61], 31) := by decide +kernel
theorem dX10_jarTells_32 : decode cX10_jarTells 32 = .ok (.aload_n 0, 1) := by decide +kernel
theorem dX10_jarTells_33 : decode cX10_jarTells 33 = .ok (.getfield 72, 3) := by decide +kernel
theorem dX10_jarTells_36 : decode cX10_jarTells 36 = .ok (.getfield 156, 3) := by decide +kernel
theorem dX10_jarTells_39 : decode cX10_jarTells 39 = .ok (.iload_n 1, 1) := by decide +kernel
theorem dX10_jarTells_40 : decode cX10_jarTells 40 = .ok (.iaload, 1) := by decide +kernel
theorem dX10_jarTells_41 : decode cX10_jarTells 41 = .ok (.ireturn, 1) := by decide +kernel
theorem dX10_jarTells_42 : decode cX10_jarTells 42 = .ok (.aload_n 0, 1) := by decide +kernel
theorem dX10_jarTells_43 : decode cX10_jarTells 43 = .ok (.getfield 72, 3) := by decide +kernel
theorem dX10_jarTells_46 : decode cX10_jarTells 46 = .ok (.getfield 197, 3) := by decide +kernel
theorem dX10_jarTells_49 : decode cX10_jarTells 49 = .ok (.iload_n 1, 1) := by decide +kernel
theorem dX10_jarTells_50 : decode cX10_jarTells 50 = .ok (.iaload, 1) := by decide +kernel
theorem dX10_jarTells_51 : decode cX10_jarTells 51 = .ok (.ireturn, 1) := by decide +kernel
theorem dX10_jarTells_52 : decode cX10_jarTells 52 = .ok (.aload_n 0, 1) := by decide +kernel
theorem dX10_jarTells_53 : decode cX10_jarTells 53 = .ok (.getfield 28, 3) := by decide +kernel
theorem dX10_jarTells_56 : decode cX10_jarTells 56 = .ok (.getfield 162, 3) := by decide +kernel
theorem dX10_jarTells_59 : decode cX10_jarTells 59 = .ok (.iload_n 1, 1) := by decide +kernel
theorem dX10_jarTells_60 : decode cX10_jarTells 60 = .ok (.iaload, 1) := by decide +kernel
theorem dX10_jarTells_61 : decode cX10_jarTells 61 = .ok (.ireturn, 1) := by decide +kernel
theorem dX10_jarTells_62 : decode cX10_jarTells 62 = .ok (.aload_n 0, 1) := by decide +kernel
theorem dX10_jarTells_63 : decode cX10_jarTells 63 = .ok (.getfield 28, 3) := by decide +kernel
theorem dX10_jarTells_66 : decode cX10_jarTells 66 = .ok (.getfield 187, 3) := by decide +kernel
theorem dX10_jarTells_69 : decode cX10_jarTells 69 = .ok (.iload_n 1, 1) := by decide +kernel
theorem dX10_jarTells_70 : decode cX10_jarTells 70 = .ok (.iaload, 1) := by decide +kernel
theorem dX10_jarTells_71 : decode cX10_jarTells 71 = .ok (.ireturn, 1) := by decide +kernel
theorem dX10_jarTells_72 : decode cX10_jarTells 72 = .ok (.aload_n 0, 1) := by decide +kernel
theorem dX10_jarTells_73 : decode cX10_jarTells 73 = .ok (.getfield 28, 3) := by decide +kernel
theorem dX10_jarTells_76 : decode cX10_jarTells 76 = .ok (.getfield 169, 3) := by decide +kernel
theorem dX10_jarTells_79 : decode cX10_jarTells 79 = .ok (.iload_n 1, 1) := by decide +kernel
theorem dX10_jarTells_80 : decode cX10_jarTells 80 = .ok (.iaload, 1) := by decide +kernel
theorem dX10_jarTells_81 : decode cX10_jarTells 81 = .ok (.ireturn, 1) := by decide +kernel
theorem dX10_placeTells_0 : decode cX10_placeTells 0 = .ok (.iload_n 2, 1) := by decide +kernel
theorem dX10_placeTells_1 : decode cX10_placeTells 1 = .ok (.tableswitch 57 0 2 #[27, 37, 47], 27) := by decide +kernel
theorem dX10_placeTells_28 : decode cX10_placeTells 28 = .ok (.aload_n 0, 1) := by decide +kernel
theorem dX10_placeTells_29 : decode cX10_placeTells 29 = .ok (.getfield 72, 3) := by decide +kernel
theorem dX10_placeTells_32 : decode cX10_placeTells 32 = .ok (.getfield 262, 3) := by decide +kernel
theorem dX10_placeTells_35 : decode cX10_placeTells 35 = .ok (.iload_n 1, 1) := by decide +kernel
theorem dX10_placeTells_36 : decode cX10_placeTells 36 = .ok (.iaload, 1) := by decide +kernel
theorem dX10_placeTells_37 : decode cX10_placeTells 37 = .ok (.ireturn, 1) := by decide +kernel
theorem dX10_placeTells_38 : decode cX10_placeTells 38 = .ok (.aload_n 0, 1) := by decide +kernel
theorem dX10_placeTells_39 : decode cX10_placeTells 39 = .ok (.getfield 28, 3) := by decide +kernel
theorem dX10_placeTells_42 : decode cX10_placeTells 42 = .ok (.getfield 212, 3) := by decide +kernel
theorem dX10_placeTells_45 : decode cX10_placeTells 45 = .ok (.iload_n 1, 1) := by decide +kernel
theorem dX10_placeTells_46 : decode cX10_placeTells 46 = .ok (.iaload, 1) := by decide +kernel
theorem dX10_placeTells_47 : decode cX10_placeTells 47 = .ok (.ireturn, 1) := by decide +kernel
theorem dX10_placeTells_48 : decode cX10_placeTells 48 = .ok (.aload_n 0, 1) := by decide +kernel
theorem dX10_placeTells_49 : decode cX10_placeTells 49 = .ok (.getfield 28, 3) := by decide +kernel
theorem dX10_placeTells_52 : decode cX10_placeTells 52 = .ok (.getfield 383, 3) := by decide +kernel
theorem dX10_placeTells_55 : decode cX10_placeTells 55 = .ok (.iload_n 1, 1) := by decide +kernel
theorem dX10_placeTells_56 : decode cX10_placeTells 56 = .ok (.iaload, 1) := by decide +kernel
theorem dX10_placeTells_57 : decode cX10_placeTells 57 = .ok (.ireturn, 1) := by decide +kernel
theorem dX10_placeTells_58 : decode cX10_placeTells 58 = .ok (.aload_n 0, 1) := by decide +kernel
theorem dX10_placeTells_59 : decode cX10_placeTells 59 = .ok (.iload_n 1, 1) := by decide +kernel
theorem dX10_placeTells_60 : decode cX10_placeTells 60 = .ok (.invokevirtual 386, 3) := by decide +kernel
theorem dX10_placeTells_63 : decode cX10_placeTells 63 = .ok (.ireturn, 1) := by decide +kernel
theorem dX10_lightAt_0 : decode cX10_lightAt 0 = .ok (.iconst 0, 1) := by decide +kernel
theorem dX10_lightAt_1 : decode cX10_lightAt 1 = .ok (.istore_n 2, 1) := by decide +kernel
theorem dX10_lightAt_2 : decode cX10_lightAt 2 = .ok (.iconst 0, 1) := by decide +kernel
theorem dX10_lightAt_3 : decode cX10_lightAt 3 = .ok (.istore_n 3, 1) := by decide +kernel
theorem dX10_lightAt_4 : decode cX10_lightAt 4 = .ok (.iload_n 3, 1) := by decide +kernel
theorem dX10_lightAt_5 : decode cX10_lightAt 5 = .ok (.aload_n 0, 1) := by decide +kernel
theorem dX10_lightAt_6 : decode cX10_lightAt 6 = .ok (.getfield 72, 3) := by decide +kernel
theorem dX10_lightAt_9 : decode cX10_lightAt 9 = .ok (.getfield 144, 3) := by decide +kernel
theorem dX10_lightAt_12 : decode cX10_lightAt 12 = .ok (.if_icmp .ge 34, 3) := by decide +kernel
theorem dX10_lightAt_15 : decode cX10_lightAt 15 = .ok (.aload_n 0, 1) := by decide +kernel
theorem dX10_lightAt_16 : decode cX10_lightAt 16 = .ok (.getfield 28, 3) := by decide +kernel
theorem dX10_lightAt_19 : decode cX10_lightAt 19 = .ok (.getfield 187, 3) := by decide +kernel
theorem dX10_lightAt_22 : decode cX10_lightAt 22 = .ok (.iload_n 3, 1) := by decide +kernel
theorem dX10_lightAt_23 : decode cX10_lightAt 23 = .ok (.iaload, 1) := by decide +kernel
theorem dX10_lightAt_24 : decode cX10_lightAt 24 = .ok (.iload_n 1, 1) := by decide +kernel
theorem dX10_lightAt_25 : decode cX10_lightAt 25 = .ok (.if_icmp .ne 15, 3) := by decide +kernel
theorem dX10_lightAt_28 : decode cX10_lightAt 28 = .ok (.iload_n 2, 1) := by decide +kernel
theorem dX10_lightAt_29 : decode cX10_lightAt 29 = .ok (.aload_n 0, 1) := by decide +kernel
theorem dX10_lightAt_30 : decode cX10_lightAt 30 = .ok (.getfield 28, 3) := by decide +kernel
theorem dX10_lightAt_33 : decode cX10_lightAt 33 = .ok (.getfield 162, 3) := by decide +kernel
theorem dX10_lightAt_36 : decode cX10_lightAt 36 = .ok (.iload_n 3, 1) := by decide +kernel
theorem dX10_lightAt_37 : decode cX10_lightAt 37 = .ok (.iaload, 1) := by decide +kernel
theorem dX10_lightAt_38 : decode cX10_lightAt 38 = .ok (.iadd, 1) := by decide +kernel
theorem dX10_lightAt_39 : decode cX10_lightAt 39 = .ok (.istore_n 2, 1) := by decide +kernel
theorem dX10_lightAt_40 : decode cX10_lightAt 40 = .ok (.iinc 3 1, 3) := by decide +kernel
theorem dX10_lightAt_43 : decode cX10_lightAt 43 = .ok (.goto (-39), 3) := by decide +kernel
theorem dX10_lightAt_46 : decode cX10_lightAt 46 = .ok (.iload_n 2, 1) := by decide +kernel
theorem dX10_lightAt_47 : decode cX10_lightAt 47 = .ok (.ireturn, 1) := by decide +kernel
theorem dX10_allLight_0 : decode cX10_allLight 0 = .ok (.iconst 0, 1) := by decide +kernel
theorem dX10_allLight_1 : decode cX10_allLight 1 = .ok (.istore_n 1, 1) := by decide +kernel
theorem dX10_allLight_2 : decode cX10_allLight 2 = .ok (.iconst 0, 1) := by decide +kernel
theorem dX10_allLight_3 : decode cX10_allLight 3 = .ok (.istore_n 2, 1) := by decide +kernel
theorem dX10_allLight_4 : decode cX10_allLight 4 = .ok (.iload_n 2, 1) := by decide +kernel
theorem dX10_allLight_5 : decode cX10_allLight 5 = .ok (.aload_n 0, 1) := by decide +kernel
theorem dX10_allLight_6 : decode cX10_allLight 6 = .ok (.getfield 72, 3) := by decide +kernel
theorem dX10_allLight_9 : decode cX10_allLight 9 = .ok (.getfield 144, 3) := by decide +kernel
theorem dX10_allLight_12 : decode cX10_allLight 12 = .ok (.if_icmp .ge 21, 3) := by decide +kernel
theorem dX10_allLight_15 : decode cX10_allLight 15 = .ok (.iload_n 1, 1) := by decide +kernel
theorem dX10_allLight_16 : decode cX10_allLight 16 = .ok (.aload_n 0, 1) := by decide +kernel
theorem dX10_allLight_17 : decode cX10_allLight 17 = .ok (.getfield 28, 3) := by decide +kernel
theorem dX10_allLight_20 : decode cX10_allLight 20 = .ok (.getfield 162, 3) := by decide +kernel
theorem dX10_allLight_23 : decode cX10_allLight 23 = .ok (.iload_n 2, 1) := by decide +kernel
theorem dX10_allLight_24 : decode cX10_allLight 24 = .ok (.iaload, 1) := by decide +kernel
theorem dX10_allLight_25 : decode cX10_allLight 25 = .ok (.iadd, 1) := by decide +kernel
theorem dX10_allLight_26 : decode cX10_allLight 26 = .ok (.istore_n 1, 1) := by decide +kernel
theorem dX10_allLight_27 : decode cX10_allLight 27 = .ok (.iinc 2 1, 3) := by decide +kernel
theorem dX10_allLight_30 : decode cX10_allLight 30 = .ok (.goto (-26), 3) := by decide +kernel
theorem dX10_allLight_33 : decode cX10_allLight 33 = .ok (.iload_n 1, 1) := by decide +kernel
theorem dX10_allLight_34 : decode cX10_allLight 34 = .ok (.ireturn, 1) := by decide +kernel
theorem dX10_leakAll_0 : decode cX10_leakAll 0 = .ok (.iconst 0, 1) := by decide +kernel
theorem dX10_leakAll_1 : decode cX10_leakAll 1 = .ok (.istore_n 1, 1) := by decide +kernel
theorem dX10_leakAll_2 : decode cX10_leakAll 2 = .ok (.iconst 0, 1) := by decide +kernel
theorem dX10_leakAll_3 : decode cX10_leakAll 3 = .ok (.istore_n 2, 1) := by decide +kernel
theorem dX10_leakAll_4 : decode cX10_leakAll 4 = .ok (.iload_n 2, 1) := by decide +kernel
theorem dX10_leakAll_5 : decode cX10_leakAll 5 = .ok (.aload_n 0, 1) := by decide +kernel
theorem dX10_leakAll_6 : decode cX10_leakAll 6 = .ok (.getfield 72, 3) := by decide +kernel
theorem dX10_leakAll_9 : decode cX10_leakAll 9 = .ok (.getfield 144, 3) := by decide +kernel
theorem dX10_leakAll_12 : decode cX10_leakAll 12 = .ok (.if_icmp .ge 65, 3) := by decide +kernel
theorem dX10_leakAll_15 : decode cX10_leakAll 15 = .ok (.aload_n 0, 1) := by decide +kernel
theorem dX10_leakAll_16 : decode cX10_leakAll 16 = .ok (.getfield 72, 3) := by decide +kernel
theorem dX10_leakAll_19 : decode cX10_leakAll 19 = .ok (.getfield 156, 3) := by decide +kernel
theorem dX10_leakAll_22 : decode cX10_leakAll 22 = .ok (.iload_n 2, 1) := by decide +kernel
theorem dX10_leakAll_23 : decode cX10_leakAll 23 = .ok (.iaload, 1) := by decide +kernel
theorem dX10_leakAll_24 : decode cX10_leakAll 24 = .ok (.aload_n 0, 1) := by decide +kernel
theorem dX10_leakAll_25 : decode cX10_leakAll 25 = .ok (.getfield 28, 3) := by decide +kernel
theorem dX10_leakAll_28 : decode cX10_leakAll 28 = .ok (.getfield 162, 3) := by decide +kernel
theorem dX10_leakAll_31 : decode cX10_leakAll 31 = .ok (.iload_n 2, 1) := by decide +kernel
theorem dX10_leakAll_32 : decode cX10_leakAll 32 = .ok (.iaload, 1) := by decide +kernel
theorem dX10_leakAll_33 : decode cX10_leakAll 33 = .ok (.aload_n 0, 1) := by decide +kernel
theorem dX10_leakAll_34 : decode cX10_leakAll 34 = .ok (.getfield 28, 3) := by decide +kernel
theorem dX10_leakAll_37 : decode cX10_leakAll 37 = .ok (.getfield 169, 3) := by decide +kernel
theorem dX10_leakAll_40 : decode cX10_leakAll 40 = .ok (.iload_n 2, 1) := by decide +kernel
theorem dX10_leakAll_41 : decode cX10_leakAll 41 = .ok (.iaload, 1) := by decide +kernel
theorem dX10_leakAll_42 : decode cX10_leakAll 42 = .ok (.ifCond .eq 7, 3) := by decide +kernel
theorem dX10_leakAll_45 : decode cX10_leakAll 45 = .ok (.iconst 1, 1) := by decide +kernel
theorem dX10_leakAll_46 : decode cX10_leakAll 46 = .ok (.goto 4, 3) := by decide +kernel
theorem dX10_leakAll_49 : decode cX10_leakAll 49 = .ok (.iconst 0, 1) := by decide +kernel
theorem dX10_leakAll_50 : decode cX10_leakAll 50 = .ok (.invokestatic 165, 3) := by decide +kernel
theorem dX10_leakAll_53 : decode cX10_leakAll 53 = .ok (.istore_n 3, 1) := by decide +kernel
theorem dX10_leakAll_54 : decode cX10_leakAll 54 = .ok (.aload_n 0, 1) := by decide +kernel
theorem dX10_leakAll_55 : decode cX10_leakAll 55 = .ok (.getfield 28, 3) := by decide +kernel
theorem dX10_leakAll_58 : decode cX10_leakAll 58 = .ok (.getfield 162, 3) := by decide +kernel
theorem dX10_leakAll_61 : decode cX10_leakAll 61 = .ok (.iload_n 2, 1) := by decide +kernel
theorem dX10_leakAll_62 : decode cX10_leakAll 62 = .ok (.dup2, 1) := by decide +kernel
theorem dX10_leakAll_63 : decode cX10_leakAll 63 = .ok (.iaload, 1) := by decide +kernel
theorem dX10_leakAll_64 : decode cX10_leakAll 64 = .ok (.iload_n 3, 1) := by decide +kernel
theorem dX10_leakAll_65 : decode cX10_leakAll 65 = .ok (.isub, 1) := by decide +kernel
theorem dX10_leakAll_66 : decode cX10_leakAll 66 = .ok (.iastore, 1) := by decide +kernel
theorem dX10_leakAll_67 : decode cX10_leakAll 67 = .ok (.iload_n 1, 1) := by decide +kernel
theorem dX10_leakAll_68 : decode cX10_leakAll 68 = .ok (.iload_n 3, 1) := by decide +kernel
theorem dX10_leakAll_69 : decode cX10_leakAll 69 = .ok (.iadd, 1) := by decide +kernel
theorem dX10_leakAll_70 : decode cX10_leakAll 70 = .ok (.istore_n 1, 1) := by decide +kernel
theorem dX10_leakAll_71 : decode cX10_leakAll 71 = .ok (.iinc 2 1, 3) := by decide +kernel
theorem dX10_leakAll_74 : decode cX10_leakAll 74 = .ok (.goto (-70), 3) := by decide +kernel
theorem dX10_leakAll_77 : decode cX10_leakAll 77 = .ok (.iload_n 1, 1) := by decide +kernel
theorem dX10_leakAll_78 : decode cX10_leakAll 78 = .ok (.ireturn, 1) := by decide +kernel
theorem dX10_countDark_0 : decode cX10_countDark 0 = .ok (.iconst 0, 1) := by decide +kernel
theorem dX10_countDark_1 : decode cX10_countDark 1 = .ok (.istore_n 1, 1) := by decide +kernel
theorem dX10_countDark_2 : decode cX10_countDark 2 = .ok (.iconst 1, 1) := by decide +kernel
theorem dX10_countDark_3 : decode cX10_countDark 3 = .ok (.istore_n 2, 1) := by decide +kernel
theorem dX10_countDark_4 : decode cX10_countDark 4 = .ok (.iload_n 2, 1) := by decide +kernel
theorem dX10_countDark_5 : decode cX10_countDark 5 = .ok (.iconst 5, 1) := by decide +kernel
theorem dX10_countDark_6 : decode cX10_countDark 6 = .ok (.if_icmp .ge 46, 3) := by decide +kernel
theorem dX10_countDark_9 : decode cX10_countDark 9 = .ok (.aload_n 0, 1) := by decide +kernel
theorem dX10_countDark_10 : decode cX10_countDark 10 = .ok (.getfield 28, 3) := by decide +kernel
theorem dX10_countDark_13 : decode cX10_countDark 13 = .ok (.getfield 212, 3) := by decide +kernel
theorem dX10_countDark_16 : decode cX10_countDark 16 = .ok (.iload_n 2, 1) := by decide +kernel
theorem dX10_countDark_17 : decode cX10_countDark 17 = .ok (.iaload, 1) := by decide +kernel
theorem dX10_countDark_18 : decode cX10_countDark 18 = .ok (.aload_n 0, 1) := by decide +kernel
theorem dX10_countDark_19 : decode cX10_countDark 19 = .ok (.getfield 72, 3) := by decide +kernel
theorem dX10_countDark_22 : decode cX10_countDark 22 = .ok (.getfield 262, 3) := by decide +kernel
theorem dX10_countDark_25 : decode cX10_countDark 25 = .ok (.iload_n 2, 1) := by decide +kernel
theorem dX10_countDark_26 : decode cX10_countDark 26 = .ok (.iaload, 1) := by decide +kernel
theorem dX10_countDark_27 : decode cX10_countDark 27 = .ok (.if_icmp .ge 19, 3) := by decide +kernel
theorem dX10_countDark_30 : decode cX10_countDark 30 = .ok (.aload_n 0, 1) := by decide +kernel
theorem dX10_countDark_31 : decode cX10_countDark 31 = .ok (.getfield 28, 3) := by decide +kernel
theorem dX10_countDark_34 : decode cX10_countDark 34 = .ok (.getfield 383, 3) := by decide +kernel
theorem dX10_countDark_37 : decode cX10_countDark 37 = .ok (.iload_n 2, 1) := by decide +kernel
theorem dX10_countDark_38 : decode cX10_countDark 38 = .ok (.dup2, 1) := by decide +kernel
theorem dX10_countDark_39 : decode cX10_countDark 39 = .ok (.iaload, 1) := by decide +kernel
theorem dX10_countDark_40 : decode cX10_countDark 40 = .ok (.iconst 1, 1) := by decide +kernel
theorem dX10_countDark_41 : decode cX10_countDark 41 = .ok (.iadd, 1) := by decide +kernel
theorem dX10_countDark_42 : decode cX10_countDark 42 = .ok (.iastore, 1) := by decide +kernel
theorem dX10_countDark_43 : decode cX10_countDark 43 = .ok (.iinc 1 1, 3) := by decide +kernel
theorem dX10_countDark_46 : decode cX10_countDark 46 = .ok (.iinc 2 1, 3) := by decide +kernel
theorem dX10_countDark_49 : decode cX10_countDark 49 = .ok (.goto (-45), 3) := by decide +kernel
theorem dX10_countDark_52 : decode cX10_countDark 52 = .ok (.iload_n 1, 1) := by decide +kernel
theorem dX10_countDark_53 : decode cX10_countDark 53 = .ok (.ireturn, 1) := by decide +kernel
theorem dX10_refusePouring_0 : decode cX10_refusePouring 0 = .ok (.aload_n 0, 1) := by decide +kernel
theorem dX10_refusePouring_1 : decode cX10_refusePouring 1 = .ok (.iload_n 1, 1) := by decide +kernel
theorem dX10_refusePouring_2 : decode cX10_refusePouring 2 = .ok (.invokevirtual 147, 3) := by decide +kernel
theorem dX10_refusePouring_5 : decode cX10_refusePouring 5 = .ok (.ifCond .eq 13, 3) := by decide +kernel
theorem dX10_refusePouring_8 : decode cX10_refusePouring 8 = .ok (.iload_n 2, 1) := by decide +kernel
theorem dX10_refusePouring_9 : decode cX10_refusePouring 9 = .ok (.iconst 0, 1) := by decide +kernel
theorem dX10_refusePouring_10 : decode cX10_refusePouring 10 = .ok (.bipush 20, 2) := by decide +kernel
theorem dX10_refusePouring_12 : decode cX10_refusePouring 12 = .ok (.invokestatic 86, 3) := by decide +kernel
theorem dX10_refusePouring_15 : decode cX10_refusePouring 15 = .ok (.ifCond .ne 5, 3) := by decide +kernel
theorem dX10_refusePouring_18 : decode cX10_refusePouring 18 = .ok (.iconst (-1), 1) := by decide +kernel
theorem dX10_refusePouring_19 : decode cX10_refusePouring 19 = .ok (.ireturn, 1) := by decide +kernel
theorem dX10_refusePouring_20 : decode cX10_refusePouring 20 = .ok (.iconst 0, 1) := by decide +kernel
theorem dX10_refusePouring_21 : decode cX10_refusePouring 21 = .ok (.istore_n 3, 1) := by decide +kernel
theorem dX10_refusePouring_22 : decode cX10_refusePouring 22 = .ok (.iconst 0, 1) := by decide +kernel
theorem dX10_refusePouring_23 : decode cX10_refusePouring 23 = .ok (.istore 4, 2) := by decide +kernel
theorem dX10_refusePouring_25 : decode cX10_refusePouring 25 = .ok (.iload 4, 2) := by decide +kernel
theorem dX10_refusePouring_27 : decode cX10_refusePouring 27 = .ok (.aload_n 0, 1) := by decide +kernel
theorem dX10_refusePouring_28 : decode cX10_refusePouring 28 = .ok (.getfield 72, 3) := by decide +kernel
theorem dX10_refusePouring_31 : decode cX10_refusePouring 31 = .ok (.getfield 144, 3) := by decide +kernel
theorem dX10_refusePouring_34 : decode cX10_refusePouring 34 = .ok (.if_icmp .ge 34, 3) := by decide +kernel
theorem dX10_refusePouring_37 : decode cX10_refusePouring 37 = .ok (.aload_n 0, 1) := by decide +kernel
theorem dX10_refusePouring_38 : decode cX10_refusePouring 38 = .ok (.getfield 28, 3) := by decide +kernel
theorem dX10_refusePouring_41 : decode cX10_refusePouring 41 = .ok (.getfield 187, 3) := by decide +kernel
theorem dX10_refusePouring_44 : decode cX10_refusePouring 44 = .ok (.iload 4, 2) := by decide +kernel
theorem dX10_refusePouring_46 : decode cX10_refusePouring 46 = .ok (.iaload, 1) := by decide +kernel
theorem dX10_refusePouring_47 : decode cX10_refusePouring 47 = .ok (.aload_n 0, 1) := by decide +kernel
theorem dX10_refusePouring_48 : decode cX10_refusePouring 48 = .ok (.getfield 28, 3) := by decide +kernel
theorem dX10_refusePouring_51 : decode cX10_refusePouring 51 = .ok (.getfield 187, 3) := by decide +kernel
theorem dX10_refusePouring_54 : decode cX10_refusePouring 54 = .ok (.iload_n 1, 1) := by decide +kernel
theorem dX10_refusePouring_55 : decode cX10_refusePouring 55 = .ok (.iaload, 1) := by decide +kernel
theorem dX10_refusePouring_56 : decode cX10_refusePouring 56 = .ok (.if_icmp .ne 6, 3) := by decide +kernel
theorem dX10_refusePouring_59 : decode cX10_refusePouring 59 = .ok (.iinc 3 1, 3) := by decide +kernel
theorem dX10_refusePouring_62 : decode cX10_refusePouring 62 = .ok (.iinc 4 1, 3) := by decide +kernel
theorem dX10_refusePouring_65 : decode cX10_refusePouring 65 = .ok (.goto (-40), 3) := by decide +kernel
theorem dX10_refusePouring_68 : decode cX10_refusePouring 68 = .ok (.iload_n 3, 1) := by decide +kernel
theorem dX10_refusePouring_69 : decode cX10_refusePouring 69 = .ok (.iconst 3, 1) := by decide +kernel
theorem dX10_refusePouring_70 : decode cX10_refusePouring 70 = .ok (.if_icmp .le 8, 3) := by decide +kernel
theorem dX10_refusePouring_73 : decode cX10_refusePouring 73 = .ok (.bipush (-6), 2) := by decide +kernel
theorem dX10_refusePouring_75 : decode cX10_refusePouring 75 = .ok (.goto 4, 3) := by decide +kernel
theorem dX10_refusePouring_78 : decode cX10_refusePouring 78 = .ok (.iconst 0, 1) := by decide +kernel
theorem dX10_refusePouring_79 : decode cX10_refusePouring 79 = .ok (.ireturn, 1) := by decide +kernel
theorem dX10_pouringsFrom_0 : decode cX10_pouringsFrom 0 = .ok (.aload_n 0, 1) := by decide +kernel
theorem dX10_pouringsFrom_1 : decode cX10_pouringsFrom 1 = .ok (.getfield 389, 3) := by decide +kernel
theorem dX10_pouringsFrom_4 : decode cX10_pouringsFrom 4 = .ok (.ifnonnull 14, 3) := by decide +kernel
theorem dX10_pouringsFrom_7 : decode cX10_pouringsFrom 7 = .ok (.aload_n 0, 1) := by decide +kernel
theorem dX10_pouringsFrom_8 : decode cX10_pouringsFrom 8 = .ok (.new 276, 3) := by decide +kernel
theorem dX10_pouringsFrom_11 : decode cX10_pouringsFrom 11 = .ok (.dup, 1) := by decide +kernel
theorem dX10_pouringsFrom_12 : decode cX10_pouringsFrom 12 = .ok (.invokespecial 393, 3) := by decide +kernel
theorem dX10_pouringsFrom_15 : decode cX10_pouringsFrom 15 = .ok (.putfield 389, 3) := by decide +kernel
theorem dX10_pouringsFrom_18 : decode cX10_pouringsFrom 18 = .ok (.aload_n 0, 1) := by decide +kernel
theorem dX10_pouringsFrom_19 : decode cX10_pouringsFrom 19 = .ok (.getfield 389, 3) := by decide +kernel
theorem dX10_pouringsFrom_22 : decode cX10_pouringsFrom 22 = .ok (.aload_n 0, 1) := by decide +kernel
theorem dX10_pouringsFrom_23 : decode cX10_pouringsFrom 23 = .ok (.getfield 72, 3) := by decide +kernel
theorem dX10_pouringsFrom_26 : decode cX10_pouringsFrom 26 = .ok (.aload_n 0, 1) := by decide +kernel
theorem dX10_pouringsFrom_27 : decode cX10_pouringsFrom 27 = .ok (.getfield 28, 3) := by decide +kernel
theorem dX10_pouringsFrom_30 : decode cX10_pouringsFrom 30 = .ok (.aload_n 0, 1) := by decide +kernel
theorem dX10_pouringsFrom_31 : decode cX10_pouringsFrom 31 = .ok (.getfield 28, 3) := by decide +kernel
theorem dX10_pouringsFrom_34 : decode cX10_pouringsFrom 34 = .ok (.getfield 187, 3) := by decide +kernel
theorem dX10_pouringsFrom_37 : decode cX10_pouringsFrom 37 = .ok (.iload_n 1, 1) := by decide +kernel
theorem dX10_pouringsFrom_38 : decode cX10_pouringsFrom 38 = .ok (.iaload, 1) := by decide +kernel
theorem dX10_pouringsFrom_39 : decode cX10_pouringsFrom 39 = .ok (.invokevirtual 394, 3) := by decide +kernel
theorem dX10_pouringsFrom_42 : decode cX10_pouringsFrom 42 = .ok (.aload_n 0, 1) := by decide +kernel
theorem dX10_pouringsFrom_43 : decode cX10_pouringsFrom 43 = .ok (.getfield 389, 3) := by decide +kernel
theorem dX10_pouringsFrom_46 : decode cX10_pouringsFrom 46 = .ok (.areturn, 1) := by decide +kernel
theorem dX10_share_0 : decode cX10_share 0 = .ok (.aload_n 1, 1) := by decide +kernel
theorem dX10_share_1 : decode cX10_share 1 = .ok (.getfield 109, 3) := by decide +kernel
theorem dX10_share_4 : decode cX10_share 4 = .ok (.istore_n 3, 1) := by decide +kernel
theorem dX10_share_5 : decode cX10_share 5 = .ok (.iload_n 3, 1) := by decide +kernel
theorem dX10_share_6 : decode cX10_share 6 = .ok (.newarray .int, 2) := by decide +kernel
theorem dX10_share_8 : decode cX10_share 8 = .ok (.astore 4, 2) := by decide +kernel
theorem dX10_share_10 : decode cX10_share 10 = .ok (.iconst 0, 1) := by decide +kernel
theorem dX10_share_11 : decode cX10_share 11 = .ok (.istore 5, 2) := by decide +kernel
theorem dX10_share_13 : decode cX10_share 13 = .ok (.iconst 0, 1) := by decide +kernel
theorem dX10_share_14 : decode cX10_share 14 = .ok (.istore 6, 2) := by decide +kernel
theorem dX10_share_16 : decode cX10_share 16 = .ok (.iload 6, 2) := by decide +kernel
theorem dX10_share_18 : decode cX10_share 18 = .ok (.iload_n 0, 1) := by decide +kernel
theorem dX10_share_19 : decode cX10_share 19 = .ok (.if_icmp .ge 85, 3) := by decide +kernel
theorem dX10_share_22 : decode cX10_share 22 = .ok (.iconst 0, 1) := by decide +kernel
theorem dX10_share_23 : decode cX10_share 23 = .ok (.istore 7, 2) := by decide +kernel
theorem dX10_share_25 : decode cX10_share 25 = .ok (.iconst 1, 1) := by decide +kernel
theorem dX10_share_26 : decode cX10_share 26 = .ok (.istore 8, 2) := by decide +kernel
theorem dX10_share_28 : decode cX10_share 28 = .ok (.iload 8, 2) := by decide +kernel
theorem dX10_share_30 : decode cX10_share 30 = .ok (.iload_n 3, 1) := by decide +kernel
theorem dX10_share_31 : decode cX10_share 31 = .ok (.if_icmp .ge 46, 3) := by decide +kernel
theorem dX10_share_34 : decode cX10_share 34 = .ok (.aload_n 1, 1) := by decide +kernel
theorem dX10_share_35 : decode cX10_share 35 = .ok (.getfield 98, 3) := by decide +kernel
theorem dX10_share_38 : decode cX10_share 38 = .ok (.iload 8, 2) := by decide +kernel
theorem dX10_share_40 : decode cX10_share 40 = .ok (.iaload, 1) := by decide +kernel
theorem dX10_share_41 : decode cX10_share 41 = .ok (.aload 4, 2) := by decide +kernel
theorem dX10_share_43 : decode cX10_share 43 = .ok (.iload 7, 2) := by decide +kernel
theorem dX10_share_45 : decode cX10_share 45 = .ok (.iaload, 1) := by decide +kernel
theorem dX10_share_46 : decode cX10_share 46 = .ok (.iconst 1, 1) := by decide +kernel
theorem dX10_share_47 : decode cX10_share 47 = .ok (.iadd, 1) := by decide +kernel
theorem dX10_share_48 : decode cX10_share 48 = .ok (.imul, 1) := by decide +kernel
theorem dX10_share_49 : decode cX10_share 49 = .ok (.aload_n 1, 1) := by decide +kernel
theorem dX10_share_50 : decode cX10_share 50 = .ok (.getfield 98, 3) := by decide +kernel
theorem dX10_share_53 : decode cX10_share 53 = .ok (.iload 7, 2) := by decide +kernel
theorem dX10_share_55 : decode cX10_share 55 = .ok (.iaload, 1) := by decide +kernel
theorem dX10_share_56 : decode cX10_share 56 = .ok (.aload 4, 2) := by decide +kernel
theorem dX10_share_58 : decode cX10_share 58 = .ok (.iload 8, 2) := by decide +kernel
theorem dX10_share_60 : decode cX10_share 60 = .ok (.iaload, 1) := by decide +kernel
theorem dX10_share_61 : decode cX10_share 61 = .ok (.iconst 1, 1) := by decide +kernel
theorem dX10_share_62 : decode cX10_share 62 = .ok (.iadd, 1) := by decide +kernel
theorem dX10_share_63 : decode cX10_share 63 = .ok (.imul, 1) := by decide +kernel
theorem dX10_share_64 : decode cX10_share 64 = .ok (.if_icmp .le 7, 3) := by decide +kernel
theorem dX10_share_67 : decode cX10_share 67 = .ok (.iload 8, 2) := by decide +kernel
theorem dX10_share_69 : decode cX10_share 69 = .ok (.istore 7, 2) := by decide +kernel
theorem dX10_share_71 : decode cX10_share 71 = .ok (.iinc 8 1, 3) := by decide +kernel
theorem dX10_share_74 : decode cX10_share 74 = .ok (.goto (-46), 3) := by decide +kernel
theorem dX10_share_77 : decode cX10_share 77 = .ok (.aload 4, 2) := by decide +kernel
theorem dX10_share_79 : decode cX10_share 79 = .ok (.iload 7, 2) := by decide +kernel
theorem dX10_share_81 : decode cX10_share 81 = .ok (.dup2, 1) := by decide +kernel
theorem dX10_share_82 : decode cX10_share 82 = .ok (.iaload, 1) := by decide +kernel
theorem dX10_share_83 : decode cX10_share 83 = .ok (.iconst 1, 1) := by decide +kernel
theorem dX10_share_84 : decode cX10_share 84 = .ok (.iadd, 1) := by decide +kernel
theorem dX10_share_85 : decode cX10_share 85 = .ok (.iastore, 1) := by decide +kernel
theorem dX10_share_86 : decode cX10_share 86 = .ok (.iload 5, 2) := by decide +kernel
theorem dX10_share_88 : decode cX10_share 88 = .ok (.aload 4, 2) := by decide +kernel
theorem dX10_share_90 : decode cX10_share 90 = .ok (.iload 7, 2) := by decide +kernel
theorem dX10_share_92 : decode cX10_share 92 = .ok (.iaload, 1) := by decide +kernel
theorem dX10_share_93 : decode cX10_share 93 = .ok (.invokestatic 398, 3) := by decide +kernel
theorem dX10_share_96 : decode cX10_share 96 = .ok (.istore 5, 2) := by decide +kernel
theorem dX10_share_98 : decode cX10_share 98 = .ok (.iinc 6 1, 3) := by decide +kernel
theorem dX10_share_101 : decode cX10_share 101 = .ok (.goto (-85), 3) := by decide +kernel
theorem dX10_share_104 : decode cX10_share 104 = .ok (.aload_n 2, 1) := by decide +kernel
theorem dX10_share_105 : decode cX10_share 105 = .ok (.iload_n 3, 1) := by decide +kernel
theorem dX10_share_106 : decode cX10_share 106 = .ok (.iconst 0, 1) := by decide +kernel
theorem dX10_share_107 : decode cX10_share 107 = .ok (.invokevirtual 379, 3) := by decide +kernel
theorem dX10_share_110 : decode cX10_share 110 = .ok (.aload 4, 2) := by decide +kernel
theorem dX10_share_112 : decode cX10_share 112 = .ok (.iconst 0, 1) := by decide +kernel
theorem dX10_share_113 : decode cX10_share 113 = .ok (.aload_n 2, 1) := by decide +kernel
theorem dX10_share_114 : decode cX10_share 114 = .ok (.getfield 98, 3) := by decide +kernel
theorem dX10_share_117 : decode cX10_share 117 = .ok (.iconst 0, 1) := by decide +kernel
theorem dX10_share_118 : decode cX10_share 118 = .ok (.iload_n 3, 1) := by decide +kernel
theorem dX10_share_119 : decode cX10_share 119 = .ok (.invokestatic 125, 3) := by decide +kernel
theorem dX10_share_122 : decode cX10_share 122 = .ok (.iload 5, 2) := by decide +kernel
theorem dX10_share_124 : decode cX10_share 124 = .ok (.ireturn, 1) := by decide +kernel
theorem dX10_doLot_0 : decode cX10_doLot 0 = .ok (.iload_n 2, 1) := by decide +kernel
theorem dX10_doLot_1 : decode cX10_doLot 1 = .ok (.tableswitch 77 0 3 #[31, 37, 44, 51], 31) := by decide +kernel
theorem dX10_doLot_32 : decode cX10_doLot 32 = .ok (.aload_n 0, 1) := by decide +kernel
theorem dX10_doLot_33 : decode cX10_doLot 33 = .ok (.iload_n 1, 1) := by decide +kernel
theorem dX10_doLot_34 : decode cX10_doLot 34 = .ok (.invokevirtual 403, 3) := by decide +kernel
theorem dX10_doLot_37 : decode cX10_doLot 37 = .ok (.ireturn, 1) := by decide +kernel
theorem dX10_doLot_38 : decode cX10_doLot 38 = .ok (.aload_n 0, 1) := by decide +kernel
theorem dX10_doLot_39 : decode cX10_doLot 39 = .ok (.iload_n 1, 1) := by decide +kernel
theorem dX10_doLot_40 : decode cX10_doLot 40 = .ok (.iconst 1, 1) := by decide +kernel
theorem dX10_doLot_41 : decode cX10_doLot 41 = .ok (.invokevirtual 405, 3) := by decide +kernel
theorem dX10_doLot_44 : decode cX10_doLot 44 = .ok (.ireturn, 1) := by decide +kernel
theorem dX10_doLot_45 : decode cX10_doLot 45 = .ok (.aload_n 0, 1) := by decide +kernel
theorem dX10_doLot_46 : decode cX10_doLot 46 = .ok (.iload_n 1, 1) := by decide +kernel
theorem dX10_doLot_47 : decode cX10_doLot 47 = .ok (.iconst 1, 1) := by decide +kernel
theorem dX10_doLot_48 : decode cX10_doLot 48 = .ok (.invokevirtual 408, 3) := by decide +kernel
theorem dX10_doLot_51 : decode cX10_doLot 51 = .ok (.ireturn, 1) := by decide +kernel
theorem dX10_doLot_52 : decode cX10_doLot 52 = .ok (.aload_n 0, 1) := by decide +kernel
theorem dX10_doLot_53 : decode cX10_doLot 53 = .ok (.iload_n 1, 1) := by decide +kernel
theorem dX10_doLot_54 : decode cX10_doLot 54 = .ok (.iload_n 1, 1) := by decide +kernel
theorem dX10_doLot_55 : decode cX10_doLot 55 = .ok (.iconst 1, 1) := by decide +kernel
theorem dX10_doLot_56 : decode cX10_doLot 56 = .ok (.iadd, 1) := by decide +kernel
theorem dX10_doLot_57 : decode cX10_doLot 57 = .ok (.aload_n 0, 1) := by decide +kernel
theorem dX10_doLot_58 : decode cX10_doLot 58 = .ok (.getfield 72, 3) := by decide +kernel
theorem dX10_doLot_61 : decode cX10_doLot 61 = .ok (.getfield 144, 3) := by decide +kernel
theorem dX10_doLot_64 : decode cX10_doLot 64 = .ok (.if_icmp .ge 9, 3) := by decide +kernel
theorem dX10_doLot_67 : decode cX10_doLot 67 = .ok (.iload_n 1, 1) := by decide +kernel
theorem dX10_doLot_68 : decode cX10_doLot 68 = .ok (.iconst 1, 1) := by decide +kernel
theorem dX10_doLot_69 : decode cX10_doLot 69 = .ok (.iadd, 1) := by decide +kernel
theorem dX10_doLot_70 : decode cX10_doLot 70 = .ok (.goto 4, 3) := by decide +kernel
theorem dX10_doLot_73 : decode cX10_doLot 73 = .ok (.iconst 0, 1) := by decide +kernel
theorem dX10_doLot_74 : decode cX10_doLot 74 = .ok (.invokevirtual 411, 3) := by decide +kernel
theorem dX10_doLot_77 : decode cX10_doLot 77 = .ok (.ireturn, 1) := by decide +kernel
theorem dX10_doLot_78 : decode cX10_doLot 78 = .ok (.aload_n 0, 1) := by decide +kernel
theorem dX10_doLot_79 : decode cX10_doLot 79 = .ok (.invokevirtual 414, 3) := by decide +kernel
theorem dX10_doLot_82 : decode cX10_doLot 82 = .ok (.ireturn, 1) := by decide +kernel
theorem dX10_commonDivisor_0 : decode cX10_commonDivisor 0 = .ok (.iload_n 1, 1) := by decide +kernel
theorem dX10_commonDivisor_1 : decode cX10_commonDivisor 1 = .ok (.istore_n 2, 1) := by decide +kernel
theorem dX10_commonDivisor_2 : decode cX10_commonDivisor 2 = .ok (.iload_n 2, 1) := by decide +kernel
theorem dX10_commonDivisor_3 : decode cX10_commonDivisor 3 = .ok (.iconst 1, 1) := by decide +kernel
theorem dX10_commonDivisor_4 : decode cX10_commonDivisor 4 = .ok (.if_icmp .le 23, 3) := by decide +kernel
theorem dX10_commonDivisor_7 : decode cX10_commonDivisor 7 = .ok (.iload_n 0, 1) := by decide +kernel
theorem dX10_commonDivisor_8 : decode cX10_commonDivisor 8 = .ok (.iload_n 2, 1) := by decide +kernel
theorem dX10_commonDivisor_9 : decode cX10_commonDivisor 9 = .ok (.irem, 1) := by decide +kernel
theorem dX10_commonDivisor_10 : decode cX10_commonDivisor 10 = .ok (.ifCond .ne 11, 3) := by decide +kernel
theorem dX10_commonDivisor_13 : decode cX10_commonDivisor 13 = .ok (.iload_n 1, 1) := by decide +kernel
theorem dX10_commonDivisor_14 : decode cX10_commonDivisor 14 = .ok (.iload_n 2, 1) := by decide +kernel
theorem dX10_commonDivisor_15 : decode cX10_commonDivisor 15 = .ok (.irem, 1) := by decide +kernel
theorem dX10_commonDivisor_16 : decode cX10_commonDivisor 16 = .ok (.ifCond .ne 5, 3) := by decide +kernel
theorem dX10_commonDivisor_19 : decode cX10_commonDivisor 19 = .ok (.iload_n 2, 1) := by decide +kernel
theorem dX10_commonDivisor_20 : decode cX10_commonDivisor 20 = .ok (.ireturn, 1) := by decide +kernel
theorem dX10_commonDivisor_21 : decode cX10_commonDivisor 21 = .ok (.iinc 2 (-1), 3) := by decide +kernel
theorem dX10_commonDivisor_24 : decode cX10_commonDivisor 24 = .ok (.goto (-22), 3) := by decide +kernel
theorem dX10_commonDivisor_27 : decode cX10_commonDivisor 27 = .ok (.iconst 1, 1) := by decide +kernel
theorem dX10_commonDivisor_28 : decode cX10_commonDivisor 28 = .ok (.ireturn, 1) := by decide +kernel
theorem dX10_countThere_0 : decode cX10_countThere 0 = .ok (.iconst 0, 1) := by decide +kernel
theorem dX10_countThere_1 : decode cX10_countThere 1 = .ok (.istore_n 1, 1) := by decide +kernel
theorem dX10_countThere_2 : decode cX10_countThere 2 = .ok (.iconst 0, 1) := by decide +kernel
theorem dX10_countThere_3 : decode cX10_countThere 3 = .ok (.istore_n 2, 1) := by decide +kernel
theorem dX10_countThere_4 : decode cX10_countThere 4 = .ok (.iload_n 2, 1) := by decide +kernel
theorem dX10_countThere_5 : decode cX10_countThere 5 = .ok (.aload_n 0, 1) := by decide +kernel
theorem dX10_countThere_6 : decode cX10_countThere 6 = .ok (.arraylength, 1) := by decide +kernel
theorem dX10_countThere_7 : decode cX10_countThere 7 = .ok (.if_icmp .ge 21, 3) := by decide +kernel
theorem dX10_countThere_10 : decode cX10_countThere 10 = .ok (.aload_n 0, 1) := by decide +kernel
theorem dX10_countThere_11 : decode cX10_countThere 11 = .ok (.iload_n 2, 1) := by decide +kernel
