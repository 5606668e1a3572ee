theorem dX11_seats_170 : decode cX11_seats 170 = .ok (.invokevirtual 117, 3) := by decide +kernel
theorem dX11_seats_173 : decode cX11_seats 173 = .ok (.ireturn, 1) := by decide +kernel
theorem dX11_seats_174 : decode cX11_seats 174 = .ok (.iload 6, 2) := by decide +kernel
theorem dX11_seats_176 : decode cX11_seats 176 = .ok (.ifCond .ne 9, 3) := by decide +kernel
theorem dX11_seats_179 : decode cX11_seats 179 = .ok (.aload_n 0, 1) := by decide +kernel
theorem dX11_seats_180 : decode cX11_seats 180 = .ok (.iconst 4, 1) := by decide +kernel
theorem dX11_seats_181 : decode cX11_seats 181 = .ok (.invokevirtual 117, 3) := by decide +kernel
theorem dX11_seats_184 : decode cX11_seats 184 = .ok (.ireturn, 1) := by decide +kernel
theorem dX11_seats_185 : decode cX11_seats 185 = .ok (.iconst 0, 1) := by decide +kernel
theorem dX11_seats_186 : decode cX11_seats 186 = .ok (.istore 7, 2) := by decide +kernel
theorem dX11_seats_188 : decode cX11_seats 188 = .ok (.iload 7, 2) := by decide +kernel
theorem dX11_seats_190 : decode cX11_seats 190 = .ok (.iload_n 1, 1) := by decide +kernel
theorem dX11_seats_191 : decode cX11_seats 191 = .ok (.if_icmp .ge 85, 3) := by decide +kernel
theorem dX11_seats_194 : decode cX11_seats 194 = .ok (.iconst 0, 1) := by decide +kernel
theorem dX11_seats_195 : decode cX11_seats 195 = .ok (.istore 8, 2) := by decide +kernel
theorem dX11_seats_197 : decode cX11_seats 197 = .ok (.iconst 1, 1) := by decide +kernel
theorem dX11_seats_198 : decode cX11_seats 198 = .ok (.istore 9, 2) := by decide +kernel
theorem dX11_seats_200 : decode cX11_seats 200 = .ok (.iload 9, 2) := by decide +kernel
theorem dX11_seats_202 : decode cX11_seats 202 = .ok (.iload 4, 2) := by decide +kernel
theorem dX11_seats_204 : decode cX11_seats 204 = .ok (.if_icmp .ge 55, 3) := by decide +kernel
theorem dX11_seats_207 : decode cX11_seats 207 = .ok (.aload_n 0, 1) := by decide +kernel
theorem dX11_seats_208 : decode cX11_seats 208 = .ok (.getfield 99, 3) := by decide +kernel
theorem dX11_seats_211 : decode cX11_seats 211 = .ok (.iload 9, 2) := by decide +kernel
theorem dX11_seats_213 : decode cX11_seats 213 = .ok (.iaload, 1) := by decide +kernel
theorem dX11_seats_214 : decode cX11_seats 214 = .ok (.aload_n 0, 1) := by decide +kernel
theorem dX11_seats_215 : decode cX11_seats 215 = .ok (.getfield 96, 3) := by decide +kernel
theorem dX11_seats_218 : decode cX11_seats 218 = .ok (.iload 8, 2) := by decide +kernel
theorem dX11_seats_220 : decode cX11_seats 220 = .ok (.iaload, 1) := by decide +kernel
theorem dX11_seats_221 : decode cX11_seats 221 = .ok (.iconst 1, 1) := by decide +kernel
theorem dX11_seats_222 : decode cX11_seats 222 = .ok (.iadd, 1) := by decide +kernel
theorem dX11_seats_223 : decode cX11_seats 223 = .ok (.imul, 1) := by decide +kernel
theorem dX11_seats_224 : decode cX11_seats 224 = .ok (.aload_n 0, 1) := by decide +kernel
theorem dX11_seats_225 : decode cX11_seats 225 = .ok (.getfield 99, 3) := by decide +kernel
theorem dX11_seats_228 : decode cX11_seats 228 = .ok (.iload 8, 2) := by decide +kernel
theorem dX11_seats_230 : decode cX11_seats 230 = .ok (.iaload, 1) := by decide +kernel
theorem dX11_seats_231 : decode cX11_seats 231 = .ok (.aload_n 0, 1) := by decide +kernel
theorem dX11_seats_232 : decode cX11_seats 232 = .ok (.getfield 96, 3) := by decide +kernel
theorem dX11_seats_235 : decode cX11_seats 235 = .ok (.iload 9, 2) := by decide +kernel
theorem dX11_seats_237 : decode cX11_seats 237 = .ok (.iaload, 1) := by decide +kernel
theorem dX11_seats_238 : decode cX11_seats 238 = .ok (.iconst 1, 1) := by decide +kernel
theorem dX11_seats_239 : decode cX11_seats 239 = .ok (.iadd, 1) := by decide +kernel
theorem dX11_seats_240 : decode cX11_seats 240 = .ok (.imul, 1) := by decide +kernel
theorem dX11_seats_241 : decode cX11_seats 241 = .ok (.if_icmp .le 8, 3) := by decide +kernel
theorem dX11_seats_244 : decode cX11_seats 244 = .ok (.iload 9, 2) := by decide +kernel
theorem dX11_seats_246 : decode cX11_seats 246 = .ok (.goto 5, 3) := by decide +kernel
theorem dX11_seats_249 : decode cX11_seats 249 = .ok (.iload 8, 2) := by decide +kernel
theorem dX11_seats_251 : decode cX11_seats 251 = .ok (.istore 8, 2) := by decide +kernel
theorem dX11_seats_253 : decode cX11_seats 253 = .ok (.iinc 9 1, 3) := by decide +kernel
theorem dX11_seats_256 : decode cX11_seats 256 = .ok (.goto (-56), 3) := by decide +kernel
theorem dX11_seats_259 : decode cX11_seats 259 = .ok (.aload_n 0, 1) := by decide +kernel
theorem dX11_seats_260 : decode cX11_seats 260 = .ok (.getfield 96, 3) := by decide +kernel
theorem dX11_seats_263 : decode cX11_seats 263 = .ok (.iload 8, 2) := by decide +kernel
theorem dX11_seats_265 : decode cX11_seats 265 = .ok (.dup2, 1) := by decide +kernel
theorem dX11_seats_266 : decode cX11_seats 266 = .ok (.iaload, 1) := by decide +kernel
theorem dX11_seats_267 : decode cX11_seats 267 = .ok (.iconst 1, 1) := by decide +kernel
theorem dX11_seats_268 : decode cX11_seats 268 = .ok (.iadd, 1) := by decide +kernel
theorem dX11_seats_269 : decode cX11_seats 269 = .ok (.iastore, 1) := by decide +kernel
theorem dX11_seats_270 : decode cX11_seats 270 = .ok (.iinc 7 1, 3) := by decide +kernel
theorem dX11_seats_273 : decode cX11_seats 273 = .ok (.goto (-85), 3) := by decide +kernel
theorem dX11_seats_276 : decode cX11_seats 276 = .ok (.iconst 0, 1) := by decide +kernel
theorem dX11_seats_277 : decode cX11_seats 277 = .ok (.istore 7, 2) := by decide +kernel
theorem dX11_seats_279 : decode cX11_seats 279 = .ok (.aload_n 0, 1) := by decide +kernel
theorem dX11_seats_280 : decode cX11_seats 280 = .ok (.getfield 13, 3) := by decide +kernel
theorem dX11_seats_283 : decode cX11_seats 283 = .ok (.iload_n 3, 1) := by decide +kernel
theorem dX11_seats_284 : decode cX11_seats 284 = .ok (.iload 4, 2) := by decide +kernel
theorem dX11_seats_286 : decode cX11_seats 286 = .ok (.iastore, 1) := by decide +kernel
theorem dX11_seats_287 : decode cX11_seats 287 = .ok (.iconst 0, 1) := by decide +kernel
theorem dX11_seats_288 : decode cX11_seats 288 = .ok (.istore 8, 2) := by decide +kernel
theorem dX11_seats_290 : decode cX11_seats 290 = .ok (.iload 8, 2) := by decide +kernel
theorem dX11_seats_292 : decode cX11_seats 292 = .ok (.bipush 60, 2) := by decide +kernel
theorem dX11_seats_294 : decode cX11_seats 294 = .ok (.if_icmp .ge 65, 3) := by decide +kernel
theorem dX11_seats_297 : decode cX11_seats 297 = .ok (.aload_n 0, 1) := by decide +kernel
theorem dX11_seats_298 : decode cX11_seats 298 = .ok (.getfield 16, 3) := by decide +kernel
theorem dX11_seats_301 : decode cX11_seats 301 = .ok (.bipush 60, 2) := by decide +kernel
theorem dX11_seats_303 : decode cX11_seats 303 = .ok (.iload_n 3, 1) := by decide +kernel
theorem dX11_seats_304 : decode cX11_seats 304 = .ok (.imul, 1) := by decide +kernel
theorem dX11_seats_305 : decode cX11_seats 305 = .ok (.iload 8, 2) := by decide +kernel
theorem dX11_seats_307 : decode cX11_seats 307 = .ok (.iadd, 1) := by decide +kernel
theorem dX11_seats_308 : decode cX11_seats 308 = .ok (.iload 8, 2) := by decide +kernel
theorem dX11_seats_310 : decode cX11_seats 310 = .ok (.iload 4, 2) := by decide +kernel
theorem dX11_seats_312 : decode cX11_seats 312 = .ok (.if_icmp .ge 13, 3) := by decide +kernel
theorem dX11_seats_315 : decode cX11_seats 315 = .ok (.aload_n 0, 1) := by decide +kernel
theorem dX11_seats_316 : decode cX11_seats 316 = .ok (.getfield 96, 3) := by decide +kernel
theorem dX11_seats_319 : decode cX11_seats 319 = .ok (.iload 8, 2) := by decide +kernel
theorem dX11_seats_321 : decode cX11_seats 321 = .ok (.iaload, 1) := by decide +kernel
theorem dX11_seats_322 : decode cX11_seats 322 = .ok (.goto 4, 3) := by decide +kernel
theorem dX11_seats_325 : decode cX11_seats 325 = .ok (.iconst 0, 1) := by decide +kernel
theorem dX11_seats_326 : decode cX11_seats 326 = .ok (.iastore, 1) := by decide +kernel
theorem dX11_seats_327 : decode cX11_seats 327 = .ok (.iload 8, 2) := by decide +kernel
theorem dX11_seats_329 : decode cX11_seats 329 = .ok (.iload 4, 2) := by decide +kernel
theorem dX11_seats_331 : decode cX11_seats 331 = .ok (.if_icmp .ge 18, 3) := by decide +kernel
theorem dX11_seats_334 : decode cX11_seats 334 = .ok (.iload 7, 2) := by decide +kernel
theorem dX11_seats_336 : decode cX11_seats 336 = .ok (.aload_n 0, 1) := by decide +kernel
theorem dX11_seats_337 : decode cX11_seats 337 = .ok (.getfield 96, 3) := by decide +kernel
theorem dX11_seats_340 : decode cX11_seats 340 = .ok (.iload 8, 2) := by decide +kernel
theorem dX11_seats_342 : decode cX11_seats 342 = .ok (.iaload, 1) := by decide +kernel
theorem dX11_seats_343 : decode cX11_seats 343 = .ok (.invokestatic 292, 3) := by decide +kernel
theorem dX11_seats_346 : decode cX11_seats 346 = .ok (.goto 5, 3) := by decide +kernel
theorem dX11_seats_349 : decode cX11_seats 349 = .ok (.iload 7, 2) := by decide +kernel
theorem dX11_seats_351 : decode cX11_seats 351 = .ok (.istore 7, 2) := by decide +kernel
theorem dX11_seats_353 : decode cX11_seats 353 = .ok (.iinc 8 1, 3) := by decide +kernel
theorem dX11_seats_356 : decode cX11_seats 356 = .ok (.goto (-66), 3) := by decide +kernel
theorem dX11_seats_359 : decode cX11_seats 359 = .ok (.iload 7, 2) := by decide +kernel
theorem dX11_seats_361 : decode cX11_seats 361 = .ok (.ireturn, 1) := by decide +kernel
theorem dX11_mirror_0 : decode cX11_mirror 0 = .ok (.iload_n 1, 1) := by decide +kernel
theorem dX11_mirror_1 : decode cX11_mirror 1 = .ok (.invokestatic 243, 3) := by decide +kernel
theorem dX11_mirror_4 : decode cX11_mirror 4 = .ok (.ifCond .eq 14, 3) := by decide +kernel
theorem dX11_mirror_7 : decode cX11_mirror 7 = .ok (.iload_n 2, 1) := by decide +kernel
theorem dX11_mirror_8 : decode cX11_mirror 8 = .ok (.iconst 1, 1) := by decide +kernel
theorem dX11_mirror_9 : decode cX11_mirror 9 = .ok (.sipush 999, 3) := by decide +kernel
theorem dX11_mirror_12 : decode cX11_mirror 12 = .ok (.invokestatic 106, 3) := by decide +kernel
theorem dX11_mirror_15 : decode cX11_mirror 15 = .ok (.ifCond .ne 5, 3) := by decide +kernel
theorem dX11_mirror_18 : decode cX11_mirror 18 = .ok (.iconst (-1), 1) := by decide +kernel
theorem dX11_mirror_19 : decode cX11_mirror 19 = .ok (.ireturn, 1) := by decide +kernel
theorem dX11_mirror_20 : decode cX11_mirror 20 = .ok (.iconst 0, 1) := by decide +kernel
theorem dX11_mirror_21 : decode cX11_mirror 21 = .ok (.istore_n 3, 1) := by decide +kernel
theorem dX11_mirror_22 : decode cX11_mirror 22 = .ok (.iconst 0, 1) := by decide +kernel
theorem dX11_mirror_23 : decode cX11_mirror 23 = .ok (.istore 4, 2) := by decide +kernel
theorem dX11_mirror_25 : decode cX11_mirror 25 = .ok (.iload 4, 2) := by decide +kernel
theorem dX11_mirror_27 : decode cX11_mirror 27 = .ok (.aload_n 0, 1) := by decide +kernel
theorem dX11_mirror_28 : decode cX11_mirror 28 = .ok (.getfield 181, 3) := by decide +kernel
theorem dX11_mirror_31 : decode cX11_mirror 31 = .ok (.if_icmp .ge 30, 3) := by decide +kernel
theorem dX11_mirror_34 : decode cX11_mirror 34 = .ok (.iload_n 3, 1) := by decide +kernel
theorem dX11_mirror_35 : decode cX11_mirror 35 = .ok (.ifCond .ne 14, 3) := by decide +kernel
theorem dX11_mirror_38 : decode cX11_mirror 38 = .ok (.aload_n 0, 1) := by decide +kernel
theorem dX11_mirror_39 : decode cX11_mirror 39 = .ok (.getfield 29, 3) := by decide +kernel
theorem dX11_mirror_42 : decode cX11_mirror 42 = .ok (.iload 4, 2) := by decide +kernel
theorem dX11_mirror_44 : decode cX11_mirror 44 = .ok (.iaload, 1) := by decide +kernel
theorem dX11_mirror_45 : decode cX11_mirror 45 = .ok (.iconst 1, 1) := by decide +kernel
theorem dX11_mirror_46 : decode cX11_mirror 46 = .ok (.if_icmp .ne 7, 3) := by decide +kernel
theorem dX11_mirror_49 : decode cX11_mirror 49 = .ok (.iconst 1, 1) := by decide +kernel
theorem dX11_mirror_50 : decode cX11_mirror 50 = .ok (.goto 4, 3) := by decide +kernel
theorem dX11_mirror_53 : decode cX11_mirror 53 = .ok (.iconst 0, 1) := by decide +kernel
theorem dX11_mirror_54 : decode cX11_mirror 54 = .ok (.istore_n 3, 1) := by decide +kernel
theorem dX11_mirror_55 : decode cX11_mirror 55 = .ok (.iinc 4 1, 3) := by decide +kernel
theorem dX11_mirror_58 : decode cX11_mirror 58 = .ok (.goto (-33), 3) := by decide +kernel
theorem dX11_mirror_61 : decode cX11_mirror 61 = .ok (.iload_n 3, 1) := by decide +kernel
theorem dX11_mirror_62 : decode cX11_mirror 62 = .ok (.ifCond .eq 12, 3) := by decide +kernel
theorem dX11_mirror_65 : decode cX11_mirror 65 = .ok (.aload_n 0, 1) := by decide +kernel
theorem dX11_mirror_66 : decode cX11_mirror 66 = .ok (.getfield 32, 3) := by decide +kernel
theorem dX11_mirror_69 : decode cX11_mirror 69 = .ok (.iload_n 1, 1) := by decide +kernel
theorem dX11_mirror_70 : decode cX11_mirror 70 = .ok (.iaload, 1) := by decide +kernel
theorem dX11_mirror_71 : decode cX11_mirror 71 = .ok (.ifCond .ne 6, 3) := by decide +kernel
theorem dX11_mirror_74 : decode cX11_mirror 74 = .ok (.bipush (-9), 2) := by decide +kernel
theorem dX11_mirror_76 : decode cX11_mirror 76 = .ok (.ireturn, 1) := by decide +kernel
theorem dX11_mirror_77 : decode cX11_mirror 77 = .ok (.iconst 0, 1) := by decide +kernel
theorem dX11_mirror_78 : decode cX11_mirror 78 = .ok (.istore 4, 2) := by decide +kernel
theorem dX11_mirror_80 : decode cX11_mirror 80 = .ok (.iconst 0, 1) := by decide +kernel
theorem dX11_mirror_81 : decode cX11_mirror 81 = .ok (.istore 5, 2) := by decide +kernel
theorem dX11_mirror_83 : decode cX11_mirror 83 = .ok (.iconst 0, 1) := by decide +kernel
theorem dX11_mirror_84 : decode cX11_mirror 84 = .ok (.istore 6, 2) := by decide +kernel
theorem dX11_mirror_86 : decode cX11_mirror 86 = .ok (.iload 4, 2) := by decide +kernel
theorem dX11_mirror_88 : decode cX11_mirror 88 = .ok (.iload_n 2, 1) := by decide +kernel
theorem dX11_mirror_89 : decode cX11_mirror 89 = .ok (.if_icmp .ge 52, 3) := by decide +kernel
theorem dX11_mirror_92 : decode cX11_mirror 92 = .ok (.iload 4, 2) := by decide +kernel
theorem dX11_mirror_94 : decode cX11_mirror 94 = .ok (.aload_n 0, 1) := by decide +kernel
theorem dX11_mirror_95 : decode cX11_mirror 95 = .ok (.iload 6, 2) := by decide +kernel
theorem dX11_mirror_97 : decode cX11_mirror 97 = .ok (.invokevirtual 221, 3) := by decide +kernel
theorem dX11_mirror_100 : decode cX11_mirror 100 = .ok (.ifCond .eq 12, 3) := by decide +kernel
theorem dX11_mirror_103 : decode cX11_mirror 103 = .ok (.aload_n 0, 1) := by decide +kernel
theorem dX11_mirror_104 : decode cX11_mirror 104 = .ok (.getfield 32, 3) := by decide +kernel
theorem dX11_mirror_107 : decode cX11_mirror 107 = .ok (.iload_n 1, 1) := by decide +kernel
theorem dX11_mirror_108 : decode cX11_mirror 108 = .ok (.iaload, 1) := by decide +kernel
theorem dX11_mirror_109 : decode cX11_mirror 109 = .ok (.goto 4, 3) := by decide +kernel
theorem dX11_mirror_112 : decode cX11_mirror 112 = .ok (.iconst 0, 1) := by decide +kernel
theorem dX11_mirror_113 : decode cX11_mirror 113 = .ok (.iadd, 1) := by decide +kernel
theorem dX11_mirror_114 : decode cX11_mirror 114 = .ok (.istore 4, 2) := by decide +kernel
theorem dX11_mirror_116 : decode cX11_mirror 116 = .ok (.iload 5, 2) := by decide +kernel
theorem dX11_mirror_118 : decode cX11_mirror 118 = .ok (.aload_n 0, 1) := by decide +kernel
theorem dX11_mirror_119 : decode cX11_mirror 119 = .ok (.iload 6, 2) := by decide +kernel
theorem dX11_mirror_121 : decode cX11_mirror 121 = .ok (.invokevirtual 221, 3) := by decide +kernel
theorem dX11_mirror_124 : decode cX11_mirror 124 = .ok (.ifCond .eq 7, 3) := by decide +kernel
theorem dX11_mirror_127 : decode cX11_mirror 127 = .ok (.iconst 1, 1) := by decide +kernel
theorem dX11_mirror_128 : decode cX11_mirror 128 = .ok (.goto 4, 3) := by decide +kernel
theorem dX11_mirror_131 : decode cX11_mirror 131 = .ok (.iconst 0, 1) := by decide +kernel
theorem dX11_mirror_132 : decode cX11_mirror 132 = .ok (.iadd, 1) := by decide +kernel
theorem dX11_mirror_133 : decode cX11_mirror 133 = .ok (.istore 5, 2) := by decide +kernel
theorem dX11_mirror_135 : decode cX11_mirror 135 = .ok (.iinc 6 1, 3) := by decide +kernel
theorem dX11_mirror_138 : decode cX11_mirror 138 = .ok (.goto (-52), 3) := by decide +kernel
theorem dX11_mirror_141 : decode cX11_mirror 141 = .ok (.aload_n 0, 1) := by decide +kernel
theorem dX11_mirror_142 : decode cX11_mirror 142 = .ok (.iload 5, 2) := by decide +kernel
theorem dX11_mirror_144 : decode cX11_mirror 144 = .ok (.iload 6, 2) := by decide +kernel
theorem dX11_mirror_146 : decode cX11_mirror 146 = .ok (.invokevirtual 125, 3) := by decide +kernel
theorem dX11_mirror_149 : decode cX11_mirror 149 = .ok (.ireturn, 1) := by decide +kernel
theorem dX11_lots_0 : decode cX11_lots 0 = .ok (.iload_n 1, 1) := by decide +kernel
theorem dX11_lots_1 : decode cX11_lots 1 = .ok (.iconst 1, 1) := by decide +kernel
theorem dX11_lots_2 : decode cX11_lots 2 = .ok (.bipush 40, 2) := by decide +kernel
theorem dX11_lots_4 : decode cX11_lots 4 = .ok (.invokestatic 106, 3) := by decide +kernel
theorem dX11_lots_7 : decode cX11_lots 7 = .ok (.ifCond .eq 14, 3) := by decide +kernel
theorem dX11_lots_10 : decode cX11_lots 10 = .ok (.iload_n 2, 1) := by decide +kernel
theorem dX11_lots_11 : decode cX11_lots 11 = .ok (.iconst 1, 1) := by decide +kernel
theorem dX11_lots_12 : decode cX11_lots 12 = .ok (.ldc_w 304, 3) := by decide +kernel
theorem dX11_lots_15 : decode cX11_lots 15 = .ok (.invokestatic 106, 3) := by decide +kernel
theorem dX11_lots_18 : decode cX11_lots 18 = .ok (.ifCond .ne 5, 3) := by decide +kernel
theorem dX11_lots_21 : decode cX11_lots 21 = .ok (.iconst (-1), 1) := by decide +kernel
theorem dX11_lots_22 : decode cX11_lots 22 = .ok (.ireturn, 1) := by decide +kernel
theorem dX11_lots_23 : decode cX11_lots 23 = .ok (.aload_n 0, 1) := by decide +kernel
theorem dX11_lots_24 : decode cX11_lots 24 = .ok (.getfield 184, 3) := by decide +kernel
theorem dX11_lots_27 : decode cX11_lots 27 = .ok (.iconst 2, 1) := by decide +kernel
theorem dX11_lots_28 : decode cX11_lots 28 = .ok (.if_icmp .ge 6, 3) := by decide +kernel
theorem dX11_lots_31 : decode cX11_lots 31 = .ok (.bipush (-4), 2) := by decide +kernel
theorem dX11_lots_33 : decode cX11_lots 33 = .ok (.ireturn, 1) := by decide +kernel
theorem dX11_lots_34 : decode cX11_lots 34 = .ok (.iload_n 2, 1) := by decide +kernel
theorem dX11_lots_35 : decode cX11_lots 35 = .ok (.i2l, 1) := by decide +kernel
theorem dX11_lots_36 : decode cX11_lots 36 = .ok (.lstore_n 3, 1) := by decide +kernel
theorem dX11_lots_37 : decode cX11_lots 37 = .ok (.iconst 0, 1) := by decide +kernel
theorem dX11_lots_38 : decode cX11_lots 38 = .ok (.istore 5, 2) := by decide +kernel
theorem dX11_lots_40 : decode cX11_lots 40 = .ok (.iconst 0, 1) := by decide +kernel
theorem dX11_lots_41 : decode cX11_lots 41 = .ok (.istore 6, 2) := by decide +kernel
theorem dX11_lots_43 : decode cX11_lots 43 = .ok (.iload 6, 2) := by decide +kernel
theorem dX11_lots_45 : decode cX11_lots 45 = .ok (.iload_n 1, 1) := by decide +kernel
theorem dX11_lots_46 : decode cX11_lots 46 = .ok (.if_icmp .ge 144, 3) := by decide +kernel
theorem dX11_lots_49 : decode cX11_lots 49 = .ok (.ldc2_w 305, 3) := by decide +kernel
theorem dX11_lots_52 : decode cX11_lots 52 = .ok (.lload_n 3, 1) := by decide +kernel
theorem dX11_lots_53 : decode cX11_lots 53 = .ok (.lmul, 1) := by decide +kernel
theorem dX11_lots_54 : decode cX11_lots 54 = .ok (.ldc2_w 307, 3) := by decide +kernel
theorem dX11_lots_57 : decode cX11_lots 57 = .ok (.lrem, 1) := by decide +kernel
theorem dX11_lots_58 : decode cX11_lots 58 = .ok (.lstore_n 3, 1) := by decide +kernel
theorem dX11_lots_59 : decode cX11_lots 59 = .ok (.lload_n 3, 1) := by decide +kernel
theorem dX11_lots_60 : decode cX11_lots 60 = .ok (.aload_n 0, 1) := by decide +kernel
theorem dX11_lots_61 : decode cX11_lots 61 = .ok (.getfield 184, 3) := by decide +kernel
theorem dX11_lots_64 : decode cX11_lots 64 = .ok (.i2l, 1) := by decide +kernel
theorem dX11_lots_65 : decode cX11_lots 65 = .ok (.lrem, 1) := by decide +kernel
theorem dX11_lots_66 : decode cX11_lots 66 = .ok (.l2i, 1) := by decide +kernel
theorem dX11_lots_67 : decode cX11_lots 67 = .ok (.istore 7, 2) := by decide +kernel
theorem dX11_lots_69 : decode cX11_lots 69 = .ok (.lload_n 3, 1) := by decide +kernel
theorem dX11_lots_70 : decode cX11_lots 70 = .ok (.ldc2_w 309, 3) := by decide +kernel
theorem dX11_lots_73 : decode cX11_lots 73 = .ok (.ldiv, 1) := by decide +kernel
theorem dX11_lots_74 : decode cX11_lots 74 = .ok (.ldc2_w 311, 3) := by decide +kernel
theorem dX11_lots_77 : decode cX11_lots 77 = .ok (.lrem, 1) := by decide +kernel
theorem dX11_lots_78 : decode cX11_lots 78 = .ok (.l2i, 1) := by decide +kernel
theorem dX11_lots_79 : decode cX11_lots 79 = .ok (.tableswitch 84 0 3 #[29, 40, 52, 64], 29) := by decide +kernel
theorem dX11_lots_108 : decode cX11_lots 108 = .ok (.aload_n 0, 1) := by decide +kernel
theorem dX11_lots_109 : decode cX11_lots 109 = .ok (.iload 7, 2) := by decide +kernel
theorem dX11_lots_111 : decode cX11_lots 111 = .ok (.invokevirtual 313, 3) := by decide +kernel
theorem dX11_lots_114 : decode cX11_lots 114 = .ok (.istore 8, 2) := by decide +kernel
theorem dX11_lots_116 : decode cX11_lots 116 = .ok (.goto 53, 3) := by decide +kernel
theorem dX11_lots_119 : decode cX11_lots 119 = .ok (.aload_n 0, 1) := by decide +kernel
theorem dX11_lots_120 : decode cX11_lots 120 = .ok (.iload 7, 2) := by decide +kernel
theorem dX11_lots_122 : decode cX11_lots 122 = .ok (.iconst 1, 1) := by decide +kernel
theorem dX11_lots_123 : decode cX11_lots 123 = .ok (.invokevirtual 316, 3) := by decide +kernel
theorem dX11_lots_126 : decode cX11_lots 126 = .ok (.istore 8, 2) := by decide +kernel
theorem dX11_lots_128 : decode cX11_lots 128 = .ok (.goto 41, 3) := by decide +kernel
theorem dX11_lots_131 : decode cX11_lots 131 = .ok (.aload_n 0, 1) := by decide +kernel
theorem dX11_lots_132 : decode cX11_lots 132 = .ok (.iload 7, 2) := by decide +kernel
theorem dX11_lots_134 : decode cX11_lots 134 = .ok (.iconst 1, 1) := by decide +kernel
theorem dX11_lots_135 : decode cX11_lots 135 = .ok (.invokevirtual 319, 3) := by decide +kernel
theorem dX11_lots_138 : decode cX11_lots 138 = .ok (.istore 8, 2) := by decide +kernel
theorem dX11_lots_140 : decode cX11_lots 140 = .ok (.goto 29, 3) := by decide +kernel
theorem dX11_lots_143 : decode cX11_lots 143 = .ok (.aload_n 0, 1) := by decide +kernel
theorem dX11_lots_144 : decode cX11_lots 144 = .ok (.iload 7, 2) := by decide +kernel
theorem dX11_lots_146 : decode cX11_lots 146 = .ok (.iload 7, 2) := by decide +kernel
theorem dX11_lots_148 : decode cX11_lots 148 = .ok (.iconst 1, 1) := by decide +kernel
theorem dX11_lots_149 : decode cX11_lots 149 = .ok (.iadd, 1) := by decide +kernel
theorem dX11_lots_150 : decode cX11_lots 150 = .ok (.aload_n 0, 1) := by decide +kernel
theorem dX11_lots_151 : decode cX11_lots 151 = .ok (.getfield 184, 3) := by decide +kernel
theorem dX11_lots_154 : decode cX11_lots 154 = .ok (.irem, 1) := by decide +kernel
theorem dX11_lots_155 : decode cX11_lots 155 = .ok (.invokevirtual 322, 3) := by decide +kernel
theorem dX11_lots_158 : decode cX11_lots 158 = .ok (.istore 8, 2) := by decide +kernel
theorem dX11_lots_160 : decode cX11_lots 160 = .ok (.goto 9, 3) := by decide +kernel
theorem dX11_lots_163 : decode cX11_lots 163 = .ok (.aload_n 0, 1) := by decide +kernel
theorem dX11_lots_164 : decode cX11_lots 164 = .ok (.invokevirtual 325, 3) := by decide +kernel
theorem dX11_lots_167 : decode cX11_lots 167 = .ok (.istore 8, 2) := by decide +kernel
theorem dX11_lots_169 : decode cX11_lots 169 = .ok (.iload 5, 2) := by decide +kernel
theorem dX11_lots_171 : decode cX11_lots 171 = .ok (.iload 8, 2) := by decide +kernel
theorem dX11_lots_173 : decode cX11_lots 173 = .ok (.ifCond .lt 7, 3) := by decide +kernel
theorem dX11_lots_176 : decode cX11_lots 176 = .ok (.iconst 1, 1) := by decide +kernel
theorem dX11_lots_177 : decode cX11_lots 177 = .ok (.goto 4, 3) := by decide +kernel
theorem dX11_lots_180 : decode cX11_lots 180 = .ok (.iconst 0, 1) := by decide +kernel
theorem dX11_lots_181 : decode cX11_lots 181 = .ok (.iadd, 1) := by decide +kernel
theorem dX11_lots_182 : decode cX11_lots 182 = .ok (.istore 5, 2) := by decide +kernel
theorem dX11_lots_184 : decode cX11_lots 184 = .ok (.iinc 6 1, 3) := by decide +kernel
theorem dX11_lots_187 : decode cX11_lots 187 = .ok (.goto (-144), 3) := by decide +kernel
theorem dX11_lots_190 : decode cX11_lots 190 = .ok (.iload 5, 2) := by decide +kernel
theorem dX11_lots_192 : decode cX11_lots 192 = .ok (.ireturn, 1) := by decide +kernel
theorem dX11_lightAll_0 : decode cX11_lightAll 0 = .ok (.iconst 0, 1) := by decide +kernel
theorem dX11_lightAll_1 : decode cX11_lightAll 1 = .ok (.istore_n 1, 1) := by decide +kernel
theorem dX11_lightAll_2 : decode cX11_lightAll 2 = .ok (.iconst 0, 1) := by decide +kernel
theorem dX11_lightAll_3 : decode cX11_lightAll 3 = .ok (.istore_n 2, 1) := by decide +kernel
theorem dX11_lightAll_4 : decode cX11_lightAll 4 = .ok (.iload_n 2, 1) := by decide +kernel
theorem dX11_lightAll_5 : decode cX11_lightAll 5 = .ok (.aload_n 0, 1) := by decide +kernel
theorem dX11_lightAll_6 : decode cX11_lightAll 6 = .ok (.getfield 184, 3) := by decide +kernel
theorem dX11_lightAll_9 : decode cX11_lightAll 9 = .ok (.if_icmp .ge 20, 3) := by decide +kernel
theorem dX11_lightAll_12 : decode cX11_lightAll 12 = .ok (.iload_n 1, 1) := by decide +kernel
theorem dX11_lightAll_13 : decode cX11_lightAll 13 = .ok (.aload_n 0, 1) := by decide +kernel
theorem dX11_lightAll_14 : decode cX11_lightAll 14 = .ok (.getfield 53, 3) := by decide +kernel
theorem dX11_lightAll_17 : decode cX11_lightAll 17 = .ok (.iconst 0, 1) := by decide +kernel
theorem dX11_lightAll_18 : decode cX11_lightAll 18 = .ok (.iload_n 2, 1) := by decide +kernel
theorem dX11_lightAll_19 : decode cX11_lightAll 19 = .ok (.iadd, 1) := by decide +kernel
theorem dX11_lightAll_20 : decode cX11_lightAll 20 = .ok (.iaload, 1) := by decide +kernel
theorem dX11_lightAll_21 : decode cX11_lightAll 21 = .ok (.iadd, 1) := by decide +kernel
theorem dX11_lightAll_22 : decode cX11_lightAll 22 = .ok (.istore_n 1, 1) := by decide +kernel
theorem dX11_lightAll_23 : decode cX11_lightAll 23 = .ok (.iinc 2 1, 3) := by decide +kernel
theorem dX11_lightAll_26 : decode cX11_lightAll 26 = .ok (.goto (-22), 3) := by decide +kernel
theorem dX11_lightAll_29 : decode cX11_lightAll 29 = .ok (.iload_n 1, 1) := by decide +kernel
theorem dX11_lightAll_30 : decode cX11_lightAll 30 = .ok (.ireturn, 1) := by decide +kernel
theorem dX11_sizeAll_0 : decode cX11_sizeAll 0 = .ok (.iconst 0, 1) := by decide +kernel
theorem dX11_sizeAll_1 : decode cX11_sizeAll 1 = .ok (.istore_n 1, 1) := by decide +kernel
theorem dX11_sizeAll_2 : decode cX11_sizeAll 2 = .ok (.iconst 0, 1) := by decide +kernel
theorem dX11_sizeAll_3 : decode cX11_sizeAll 3 = .ok (.istore_n 2, 1) := by decide +kernel
theorem dX11_sizeAll_4 : decode cX11_sizeAll 4 = .ok (.iload_n 2, 1) := by decide +kernel
theorem dX11_sizeAll_5 : decode cX11_sizeAll 5 = .ok (.aload_n 0, 1) := by decide +kernel
theorem dX11_sizeAll_6 : decode cX11_sizeAll 6 = .ok (.getfield 184, 3) := by decide +kernel
theorem dX11_sizeAll_9 : decode cX11_sizeAll 9 = .ok (.if_icmp .ge 18, 3) := by decide +kernel
theorem dX11_sizeAll_12 : decode cX11_sizeAll 12 = .ok (.iload_n 1, 1) := by decide +kernel
theorem dX11_sizeAll_13 : decode cX11_sizeAll 13 = .ok (.aload_n 0, 1) := by decide +kernel
theorem dX11_sizeAll_14 : decode cX11_sizeAll 14 = .ok (.getfield 38, 3) := by decide +kernel
theorem dX11_sizeAll_17 : decode cX11_sizeAll 17 = .ok (.iload_n 2, 1) := by decide +kernel
theorem dX11_sizeAll_18 : decode cX11_sizeAll 18 = .ok (.iaload, 1) := by decide +kernel
theorem dX11_sizeAll_19 : decode cX11_sizeAll 19 = .ok (.iadd, 1) := by decide +kernel
theorem dX11_sizeAll_20 : decode cX11_sizeAll 20 = .ok (.istore_n 1, 1) := by decide +kernel
theorem dX11_sizeAll_21 : decode cX11_sizeAll 21 = .ok (.iinc 2 1, 3) := by decide +kernel
theorem dX11_sizeAll_24 : decode cX11_sizeAll 24 = .ok (.goto (-20), 3) := by decide +kernel
theorem dX11_sizeAll_27 : decode cX11_sizeAll 27 = .ok (.iload_n 1, 1) := by decide +kernel
theorem dX11_sizeAll_28 : decode cX11_sizeAll 28 = .ok (.ireturn, 1) := by decide +kernel
theorem dX11_common_0 : decode cX11_common 0 = .ok (.aload_n 0, 1) := by decide +kernel
theorem dX11_common_1 : decode cX11_common 1 = .ok (.invokevirtual 328, 3) := by decide +kernel
theorem dX11_common_4 : decode cX11_common 4 = .ok (.istore_n 1, 1) := by decide +kernel
theorem dX11_common_5 : decode cX11_common 5 = .ok (.aload_n 0, 1) := by decide +kernel
theorem dX11_common_6 : decode cX11_common 6 = .ok (.invokevirtual 331, 3) := by decide +kernel
theorem dX11_common_9 : decode cX11_common 9 = .ok (.istore_n 2, 1) := by decide +kernel
theorem dX11_common_10 : decode cX11_common 10 = .ok (.iload_n 2, 1) := by decide +kernel
theorem dX11_common_11 : decode cX11_common 11 = .ok (.ifCond .eq 14, 3) := by decide +kernel
theorem dX11_common_14 : decode cX11_common 14 = .ok (.iload_n 1, 1) := by decide +kernel
theorem dX11_common_15 : decode cX11_common 15 = .ok (.iload_n 2, 1) := by decide +kernel
theorem dX11_common_16 : decode cX11_common 16 = .ok (.irem, 1) := by decide +kernel
theorem dX11_common_17 : decode cX11_common 17 = .ok (.istore_n 3, 1) := by decide +kernel
theorem dX11_common_18 : decode cX11_common 18 = .ok (.iload_n 2, 1) := by decide +kernel
theorem dX11_common_19 : decode cX11_common 19 = .ok (.istore_n 1, 1) := by decide +kernel
theorem dX11_common_20 : decode cX11_common 20 = .ok (.iload_n 3, 1) := by decide +kernel
theorem dX11_common_21 : decode cX11_common 21 = .ok (.istore_n 2, 1) := by decide +kernel
theorem dX11_common_22 : decode cX11_common 22 = .ok (.goto (-12), 3) := by decide +kernel
theorem dX11_common_25 : decode cX11_common 25 = .ok (.iload_n 1, 1) := by decide +kernel
theorem dX11_common_26 : decode cX11_common 26 = .ok (.ireturn, 1) := by decide +kernel
theorem dX11_upper_0 : decode cX11_upper 0 = .ok (.aload_n 0, 1) := by decide +kernel
theorem dX11_upper_1 : decode cX11_upper 1 = .ok (.getfield 184, 3) := by decide +kernel
theorem dX11_upper_4 : decode cX11_upper 4 = .ok (.ifCond .ne 7, 3) := by decide +kernel
theorem dX11_upper_7 : decode cX11_upper 7 = .ok (.lconst 0, 1) := by decide +kernel
theorem dX11_upper_8 : decode cX11_upper 8 = .ok (.goto 13, 3) := by decide +kernel
theorem dX11_upper_11 : decode cX11_upper 11 = .ok (.aload_n 0, 1) := by decide +kernel
theorem dX11_upper_12 : decode cX11_upper 12 = .ok (.invokevirtual 328, 3) := by decide +kernel
theorem dX11_upper_15 : decode cX11_upper 15 = .ok (.aload_n 0, 1) := by decide +kernel
theorem dX11_upper_16 : decode cX11_upper 16 = .ok (.invokevirtual 334, 3) := by decide +kernel
theorem dX11_upper_19 : decode cX11_upper 19 = .ok (.idiv, 1) := by decide +kernel
theorem dX11_upper_20 : decode cX11_upper 20 = .ok (.i2l, 1) := by decide +kernel
theorem dX11_upper_21 : decode cX11_upper 21 = .ok (.lreturn, 1) := by decide +kernel
theorem dX11_lower_0 : decode cX11_lower 0 = .ok (.aload_n 0, 1) := by decide +kernel
theorem dX11_lower_1 : decode cX11_lower 1 = .ok (.getfield 184, 3) := by decide +kernel
theorem dX11_lower_4 : decode cX11_lower 4 = .ok (.ifCond .ne 7, 3) := by decide +kernel
theorem dX11_lower_7 : decode cX11_lower 7 = .ok (.lconst 1, 1) := by decide +kernel
theorem dX11_lower_8 : decode cX11_lower 8 = .ok (.goto 13, 3) := by decide +kernel
theorem dX11_lower_11 : decode cX11_lower 11 = .ok (.aload_n 0, 1) := by decide +kernel
theorem dX11_lower_12 : decode cX11_lower 12 = .ok (.invokevirtual 331, 3) := by decide +kernel
theorem dX11_lower_15 : decode cX11_lower 15 = .ok (.aload_n 0, 1) := by decide +kernel
theorem dX11_lower_16 : decode cX11_lower 16 = .ok (.invokevirtual 334, 3) := by decide +kernel
theorem dX11_lower_19 : decode cX11_lower 19 = .ok (.idiv, 1) := by decide +kernel
theorem dX11_lower_20 : decode cX11_lower 20 = .ok (.i2l, 1) := by decide +kernel
theorem dX11_lower_21 : decode cX11_lower 21 = .ok (.lreturn, 1) := by decide +kernel
theorem dX11_counted_0 : decode cX11_counted 0 = .ok (.iconst 0, 1) := by decide +kernel
theorem dX11_counted_1 : decode cX11_counted 1 = .ok (.istore_n 2, 1) := by decide +kernel
theorem dX11_counted_2 : decode cX11_counted 2 = .ok (.iconst 0, 1) := by decide +kernel
theorem dX11_counted_3 : decode cX11_counted 3 = .ok (.istore_n 3, 1) := by decide +kernel
theorem dX11_counted_4 : decode cX11_counted 4 = .ok (.iload_n 3, 1) := by decide +kernel
theorem dX11_counted_5 : decode cX11_counted 5 = .ok (.aload_n 0, 1) := by decide +kernel
theorem dX11_counted_6 : decode cX11_counted 6 = .ok (.getfield 184, 3) := by decide +kernel
theorem dX11_counted_9 : decode cX11_counted 9 = .ok (.if_icmp .ge 67, 3) := by decide +kernel
theorem dX11_counted_12 : decode cX11_counted 12 = .ok (.iload_n 2, 1) := by decide +kernel
theorem dX11_counted_13 : decode cX11_counted 13 = .ok (.iload_n 1, 1) := by decide +kernel
theorem dX11_counted_14 : decode cX11_counted 14 = .ok (.iconst 4, 1) := by decide +kernel
theorem dX11_counted_15 : decode cX11_counted 15 = .ok (.if_icmp .ne 23, 3) := by decide +kernel
theorem dX11_counted_18 : decode cX11_counted 18 = .ok (.aload_n 0, 1) := by decide +kernel
theorem dX11_counted_19 : decode cX11_counted 19 = .ok (.getfield 35, 3) := by decide +kernel
theorem dX11_counted_22 : decode cX11_counted 22 = .ok (.iload_n 3, 1) := by decide +kernel
theorem dX11_counted_23 : decode cX11_counted 23 = .ok (.iaload, 1) := by decide +kernel
theorem dX11_counted_24 : decode cX11_counted 24 = .ok (.iconst 2, 1) := by decide +kernel
theorem dX11_counted_25 : decode cX11_counted 25 = .ok (.if_icmp .eq 38, 3) := by decide +kernel
theorem dX11_counted_28 : decode cX11_counted 28 = .ok (.aload_n 0, 1) := by decide +kernel
theorem dX11_counted_29 : decode cX11_counted 29 = .ok (.getfield 35, 3) := by decide +kernel
theorem dX11_counted_32 : decode cX11_counted 32 = .ok (.iload_n 3, 1) := by decide +kernel
theorem dX11_counted_33 : decode cX11_counted 33 = .ok (.iaload, 1) := by decide +kernel
theorem dX11_counted_34 : decode cX11_counted 34 = .ok (.iconst 4, 1) := by decide +kernel
theorem dX11_counted_35 : decode cX11_counted 35 = .ok (.if_icmp .eq 28, 3) := by decide +kernel
theorem dX11_counted_38 : decode cX11_counted 38 = .ok (.iload_n 1, 1) := by decide +kernel
theorem dX11_counted_39 : decode cX11_counted 39 = .ok (.iconst 5, 1) := by decide +kernel
theorem dX11_counted_40 : decode cX11_counted 40 = .ok (.if_icmp .ne 27, 3) := by decide +kernel
theorem dX11_counted_43 : decode cX11_counted 43 = .ok (.aload_n 0, 1) := by decide +kernel
theorem dX11_counted_44 : decode cX11_counted 44 = .ok (.getfield 35, 3) := by decide +kernel
theorem dX11_counted_47 : decode cX11_counted 47 = .ok (.iload_n 3, 1) := by decide +kernel
theorem dX11_counted_48 : decode cX11_counted 48 = .ok (.iaload, 1) := by decide +kernel
theorem dX11_counted_49 : decode cX11_counted 49 = .ok (.iconst 3, 1) := by decide +kernel
theorem dX11_counted_50 : decode cX11_counted 50 = .ok (.if_icmp .eq 13, 3) := by decide +kernel
theorem dX11_counted_53 : decode cX11_counted 53 = .ok (.aload_n 0, 1) := by decide +kernel
theorem dX11_counted_54 : decode cX11_counted 54 = .ok (.getfield 35, 3) := by decide +kernel
theorem dX11_counted_57 : decode cX11_counted 57 = .ok (.iload_n 3, 1) := by decide +kernel
theorem dX11_counted_58 : decode cX11_counted 58 = .ok (.iaload, 1) := by decide +kernel
theorem dX11_counted_59 : decode cX11_counted 59 = .ok (.iconst 5, 1) := by decide +kernel
theorem dX11_counted_60 : decode cX11_counted 60 = .ok (.if_icmp .ne 7, 3) := by decide +kernel
theorem dX11_counted_63 : decode cX11_counted 63 = .ok (.iconst 1, 1) := by decide +kernel
theorem dX11_counted_64 : decode cX11_counted 64 = .ok (.goto 4, 3) := by decide +kernel
theorem dX11_counted_67 : decode cX11_counted 67 = .ok (.iconst 0, 1) := by decide +kernel
theorem dX11_counted_68 : decode cX11_counted 68 = .ok (.iadd, 1) := by decide +kernel
theorem dX11_counted_69 : decode cX11_counted 69 = .ok (.istore_n 2, 1) := by decide +kernel
theorem dX11_counted_70 : decode cX11_counted 70 = .ok (.iinc 3 1, 3) := by decide +kernel
theorem dX11_counted_73 : decode cX11_counted 73 = .ok (.goto (-69), 3) := by decide +kernel
theorem dX11_counted_76 : decode cX11_counted 76 = .ok (.iconst 0, 1) := by decide +kernel
theorem dX11_counted_77 : decode cX11_counted 77 = .ok (.istore_n 3, 1) := by decide +kernel
theorem dX11_counted_78 : decode cX11_counted 78 = .ok (.iload_n 3, 1) := by decide +kernel
theorem dX11_counted_79 : decode cX11_counted 79 = .ok (.bipush 6, 2) := by decide +kernel
theorem dX11_counted_81 : decode cX11_counted 81 = .ok (.if_icmp .ge 32, 3) := by decide +kernel
theorem dX11_counted_84 : decode cX11_counted 84 = .ok (.iload_n 2, 1) := by decide +kernel
theorem dX11_counted_85 : decode cX11_counted 85 = .ok (.iload_n 1, 1) := by decide +kernel
theorem dX11_counted_86 : decode cX11_counted 86 = .ok (.bipush 6, 2) := by decide +kernel
theorem dX11_counted_88 : decode cX11_counted 88 = .ok (.if_icmp .ne 16, 3) := by decide +kernel
theorem dX11_counted_91 : decode cX11_counted 91 = .ok (.aload_n 0, 1) := by decide +kernel
theorem dX11_counted_92 : decode cX11_counted 92 = .ok (.getfield 13, 3) := by decide +kernel
theorem dX11_counted_95 : decode cX11_counted 95 = .ok (.iload_n 3, 1) := by decide +kernel
theorem dX11_counted_96 : decode cX11_counted 96 = .ok (.iaload, 1) := by decide +kernel
theorem dX11_counted_97 : decode cX11_counted 97 = .ok (.ifCond .lt 7, 3) := by decide +kernel
theorem dX11_counted_100 : decode cX11_counted 100 = .ok (.iconst 1, 1) := by decide +kernel
theorem dX11_counted_101 : decode cX11_counted 101 = .ok (.goto 4, 3) := by decide +kernel
theorem dX11_counted_104 : decode cX11_counted 104 = .ok (.iconst 0, 1) := by decide +kernel
theorem dX11_counted_105 : decode cX11_counted 105 = .ok (.iadd, 1) := by decide +kernel
theorem dX11_counted_106 : decode cX11_counted 106 = .ok (.istore_n 2, 1) := by decide +kernel
theorem dX11_counted_107 : decode cX11_counted 107 = .ok (.iinc 3 1, 3) := by decide +kernel
theorem dX11_counted_110 : decode cX11_counted 110 = .ok (.goto (-32), 3) := by decide +kernel
theorem dX11_counted_113 : decode cX11_counted 113 = .ok (.iconst 0, 1) := by decide +kernel
theorem dX11_counted_114 : decode cX11_counted 114 = .ok (.istore_n 3, 1) := by decide +kernel
theorem dX11_counted_115 : decode cX11_counted 115 = .ok (.iload_n 3, 1) := by decide +kernel
theorem dX11_counted_116 : decode cX11_counted 116 = .ok (.iconst 4, 1) := by decide +kernel
theorem dX11_counted_117 : decode cX11_counted 117 = .ok (.if_icmp .ge 32, 3) := by decide +kernel
theorem dX11_counted_120 : decode cX11_counted 120 = .ok (.iload_n 2, 1) := by decide +kernel
theorem dX11_counted_121 : decode cX11_counted 121 = .ok (.iload_n 1, 1) := by decide +kernel
theorem dX11_counted_122 : decode cX11_counted 122 = .ok (.bipush 7, 2) := by decide +kernel
theorem dX11_counted_124 : decode cX11_counted 124 = .ok (.if_icmp .ne 16, 3) := by decide +kernel
theorem dX11_counted_127 : decode cX11_counted 127 = .ok (.aload_n 0, 1) := by decide +kernel
theorem dX11_counted_128 : decode cX11_counted 128 = .ok (.getfield 22, 3) := by decide +kernel
theorem dX11_counted_131 : decode cX11_counted 131 = .ok (.iload_n 3, 1) := by decide +kernel
theorem dX11_counted_132 : decode cX11_counted 132 = .ok (.iaload, 1) := by decide +kernel
theorem dX11_counted_133 : decode cX11_counted 133 = .ok (.ifCond .lt 7, 3) := by decide +kernel
theorem dX11_counted_136 : decode cX11_counted 136 = .ok (.iconst 1, 1) := by decide +kernel
theorem dX11_counted_137 : decode cX11_counted 137 = .ok (.goto 4, 3) := by decide +kernel
theorem dX11_counted_140 : decode cX11_counted 140 = .ok (.iconst 0, 1) := by decide +kernel
theorem dX11_counted_141 : decode cX11_counted 141 = .ok (.iadd, 1) := by decide +kernel
theorem dX11_counted_142 : decode cX11_counted 142 = .ok (.istore_n 2, 1) := by decide +kernel
theorem dX11_counted_143 : decode cX11_counted 143 = .ok (.iinc 3 1, 3) := by decide +kernel
theorem dX11_counted_146 : decode cX11_counted 146 = .ok (.goto (-31), 3) := by decide +kernel
theorem dX11_counted_149 : decode cX11_counted 149 = .ok (.iload_n 1, 1) := by decide +kernel
theorem dX11_counted_150 : decode cX11_counted 150 = .ok (.tableswitch 95 0 9 #[54, 59, 64, 72, 95, 95, 95, 95, 85, 90], 54) := by decide +kernel
theorem dX11_counted_204 : decode cX11_counted 204 = .ok (.aload_n 0, 1) := by decide +kernel
theorem dX11_counted_205 : decode cX11_counted 205 = .ok (.getfield 184, 3) := by decide +kernel
theorem dX11_counted_208 : decode cX11_counted 208 = .ok (.ireturn, 1) := by decide +kernel
theorem dX11_counted_209 : decode cX11_counted 209 = .ok (.aload_n 0, 1) := by decide +kernel
theorem dX11_counted_210 : decode cX11_counted 210 = .ok (.invokevirtual 328, 3) := by decide +kernel
theorem dX11_counted_213 : decode cX11_counted 213 = .ok (.ireturn, 1) := by decide +kernel
theorem dX11_counted_214 : decode cX11_counted 214 = .ok (.aload_n 0, 1) := by decide +kernel
theorem dX11_counted_215 : decode cX11_counted 215 = .ok (.getfield 53, 3) := by decide +kernel
theorem dX11_counted_218 : decode cX11_counted 218 = .ok (.bipush 28, 2) := by decide +kernel
theorem dX11_counted_220 : decode cX11_counted 220 = .ok (.iaload, 1) := by decide +kernel
theorem dX11_counted_221 : decode cX11_counted 221 = .ok (.ireturn, 1) := by decide +kernel
theorem dX11_counted_222 : decode cX11_counted 222 = .ok (.aload_n 0, 1) := by decide +kernel
theorem dX11_counted_223 : decode cX11_counted 223 = .ok (.getfield 178, 3) := by decide +kernel
theorem dX11_counted_226 : decode cX11_counted 226 = .ok (.aload_n 0, 1) := by decide +kernel
theorem dX11_counted_227 : decode cX11_counted 227 = .ok (.getfield 53, 3) := by decide +kernel
theorem dX11_counted_230 : decode cX11_counted 230 = .ok (.bipush 29, 2) := by decide +kernel
theorem dX11_counted_232 : decode cX11_counted 232 = .ok (.iaload, 1) := by decide +kernel
theorem dX11_counted_233 : decode cX11_counted 233 = .ok (.isub, 1) := by decide +kernel
theorem dX11_counted_234 : decode cX11_counted 234 = .ok (.ireturn, 1) := by decide +kernel
theorem dX11_counted_235 : decode cX11_counted 235 = .ok (.aload_n 0, 1) := by decide +kernel
theorem dX11_counted_236 : decode cX11_counted 236 = .ok (.getfield 187, 3) := by decide +kernel
theorem dX11_counted_239 : decode cX11_counted 239 = .ok (.ireturn, 1) := by decide +kernel
theorem dX11_counted_240 : decode cX11_counted 240 = .ok (.aload_n 0, 1) := by decide +kernel
theorem dX11_counted_241 : decode cX11_counted 241 = .ok (.getfield 190, 3) := by decide +kernel
theorem dX11_counted_244 : decode cX11_counted 244 = .ok (.ireturn, 1) := by decide +kernel
theorem dX11_counted_245 : decode cX11_counted 245 = .ok (.iload_n 2, 1) := by decide +kernel
theorem dX11_counted_246 : decode cX11_counted 246 = .ok (.ireturn, 1) := by decide +kernel
theorem dX11_count_0 : decode cX11_count 0 = .ok (.iload_n 1, 1) := by decide +kernel
theorem dX11_count_1 : decode cX11_count 1 = .ok (.iconst 0, 1) := by decide +kernel
theorem dX11_count_2 : decode cX11_count 2 = .ok (.bipush 9, 2) := by decide +kernel
theorem dX11_count_4 : decode cX11_count 4 = .ok (.invokestatic 106, 3) := by decide +kernel
theorem dX11_count_7 : decode cX11_count 7 = .ok (.ifCond .eq 11, 3) := by decide +kernel
theorem dX11_count_10 : decode cX11_count 10 = .ok (.aload_n 0, 1) := by decide +kernel
theorem dX11_count_11 : decode cX11_count 11 = .ok (.iload_n 1, 1) := by decide +kernel
theorem dX11_count_12 : decode cX11_count 12 = .ok (.invokevirtual 337, 3) := by decide +kernel
theorem dX11_count_15 : decode cX11_count 15 = .ok (.goto 4, 3) := by decide +kernel
theorem dX11_count_18 : decode cX11_count 18 = .ok (.iconst (-1), 1) := by decide +kernel
theorem dX11_count_19 : decode cX11_count 19 = .ok (.ireturn, 1) := by decide +kernel
theorem dX11_mix_0 : decode cX11_mix 0 = .ok (.aload_n 0, 1) := by decide +kernel
theorem dX11_mix_1 : decode cX11_mix 1 = .ok (.ldc2_w 340, 3) := by decide +kernel
theorem dX11_mix_4 : decode cX11_mix 4 = .ok (.aload_n 0, 1) := by decide +kernel
theorem dX11_mix_5 : decode cX11_mix 5 = .ok (.getfield 342, 3) := by decide +kernel
theorem dX11_mix_8 : decode cX11_mix 8 = .ok (.lmul, 1) := by decide +kernel
theorem dX11_mix_9 : decode cX11_mix 9 = .ok (.lload_n 1, 1) := by decide +kernel
theorem dX11_mix_10 : decode cX11_mix 10 = .ok (.ladd, 1) := by decide +kernel
theorem dX11_mix_11 : decode cX11_mix 11 = .ok (.putfield 342, 3) := by decide +kernel
theorem dX11_mix_14 : decode cX11_mix 14 = .ok (.return_, 1) := by decide +kernel
theorem dX11_mixLand_0 : decode cX11_mixLand 0 = .ok (.iconst 0, 1) := by decide +kernel
theorem dX11_mixLand_1 : decode cX11_mixLand 1 = .ok (.istore_n 1, 1) := by decide +kernel
theorem dX11_mixLand_2 : decode cX11_mixLand 2 = .ok (.iload_n 1, 1) := by decide +kernel
theorem dX11_mixLand_3 : decode cX11_mixLand 3 = .ok (.aload_n 0, 1) := by decide +kernel
theorem dX11_mixLand_4 : decode cX11_mixLand 4 = .ok (.getfield 184, 3) := by decide +kernel
theorem dX11_mixLand_7 : decode cX11_mixLand 7 = .ok (.if_icmp .ge 33, 3) := by decide +kernel
theorem dX11_mixLand_10 : decode cX11_mixLand 10 = .ok (.iconst 0, 1) := by decide +kernel
theorem dX11_mixLand_11 : decode cX11_mixLand 11 = .ok (.istore_n 2, 1) := by decide +kernel
theorem dX11_mixLand_12 : decode cX11_mixLand 12 = .ok (.iload_n 2, 1) := by decide +kernel
theorem dX11_mixLand_13 : decode cX11_mixLand 13 = .ok (.iconst 5, 1) := by decide +kernel
theorem dX11_mixLand_14 : decode cX11_mixLand 14 = .ok (.if_icmp .ge 20, 3) := by decide +kernel
theorem dX11_mixLand_17 : decode cX11_mixLand 17 = .ok (.aload_n 0, 1) := by decide +kernel
theorem dX11_mixLand_18 : decode cX11_mixLand 18 = .ok (.aload_n 0, 1) := by decide +kernel
theorem dX11_mixLand_19 : decode cX11_mixLand 19 = .ok (.iload_n 1, 1) := by decide +kernel
theorem dX11_mixLand_20 : decode cX11_mixLand 20 = .ok (.iload_n 2, 1) := by decide +kernel
theorem dX11_mixLand_21 : decode cX11_mixLand 21 = .ok (.invokevirtual 203, 3) := by decide +kernel
theorem dX11_mixLand_24 : decode cX11_mixLand 24 = .ok (.i2l, 1) := by decide +kernel
theorem dX11_mixLand_25 : decode cX11_mixLand 25 = .ok (.invokevirtual 346, 3) := by decide +kernel
theorem dX11_mixLand_28 : decode cX11_mixLand 28 = .ok (.iinc 2 1, 3) := by decide +kernel
theorem dX11_mixLand_31 : decode cX11_mixLand 31 = .ok (.goto (-19), 3) := by decide +kernel
theorem dX11_mixLand_34 : decode cX11_mixLand 34 = .ok (.iinc 1 1, 3) := by decide +kernel
theorem dX11_mixLand_37 : decode cX11_mixLand 37 = .ok (.goto (-35), 3) := by decide +kernel
theorem dX11_mixLand_40 : decode cX11_mixLand 40 = .ok (.iconst 0, 1) := by decide +kernel
theorem dX11_mixLand_41 : decode cX11_mixLand 41 = .ok (.istore_n 1, 1) := by decide +kernel
theorem dX11_mixLand_42 : decode cX11_mixLand 42 = .ok (.iload_n 1, 1) := by decide +kernel
theorem dX11_mixLand_43 : decode cX11_mixLand 43 = .ok (.iconst 5, 1) := by decide +kernel
theorem dX11_mixLand_44 : decode cX11_mixLand 44 = .ok (.if_icmp .ge 33, 3) := by decide +kernel
theorem dX11_mixLand_47 : decode cX11_mixLand 47 = .ok (.iconst 0, 1) := by decide +kernel
theorem dX11_mixLand_48 : decode cX11_mixLand 48 = .ok (.istore_n 2, 1) := by decide +kernel
theorem dX11_mixLand_49 : decode cX11_mixLand 49 = .ok (.iload_n 2, 1) := by decide +kernel
theorem dX11_mixLand_50 : decode cX11_mixLand 50 = .ok (.iconst 4, 1) := by decide +kernel
theorem dX11_mixLand_51 : decode cX11_mixLand 51 = .ok (.if_icmp .ge 20, 3) := by decide +kernel
theorem dX11_mixLand_54 : decode cX11_mixLand 54 = .ok (.aload_n 0, 1) := by decide +kernel
theorem dX11_mixLand_55 : decode cX11_mixLand 55 = .ok (.aload_n 0, 1) := by decide +kernel
theorem dX11_mixLand_56 : decode cX11_mixLand 56 = .ok (.iload_n 1, 1) := by decide +kernel
theorem dX11_mixLand_57 : decode cX11_mixLand 57 = .ok (.iload_n 2, 1) := by decide +kernel
theorem dX11_mixLand_58 : decode cX11_mixLand 58 = .ok (.invokevirtual 218, 3) := by decide +kernel
theorem dX11_mixLand_61 : decode cX11_mixLand 61 = .ok (.i2l, 1) := by decide +kernel
theorem dX11_mixLand_62 : decode cX11_mixLand 62 = .ok (.invokevirtual 346, 3) := by decide +kernel
theorem dX11_mixLand_65 : decode cX11_mixLand 65 = .ok (.iinc 2 1, 3) := by decide +kernel
theorem dX11_mixLand_68 : decode cX11_mixLand 68 = .ok (.goto (-19), 3) := by decide +kernel
theorem dX11_mixLand_71 : decode cX11_mixLand 71 = .ok (.iinc 1 1, 3) := by decide +kernel
theorem dX11_mixLand_74 : decode cX11_mixLand 74 = .ok (.goto (-32), 3) := by decide +kernel
theorem dX11_mixLand_77 : decode cX11_mixLand 77 = .ok (.iconst 0, 1) := by decide +kernel
theorem dX11_mixLand_78 : decode cX11_mixLand 78 = .ok (.istore_n 1, 1) := by decide +kernel
theorem dX11_mixLand_79 : decode cX11_mixLand 79 = .ok (.iload_n 1, 1) := by decide +kernel
theorem dX11_mixLand_80 : decode cX11_mixLand 80 = .ok (.aload_n 0, 1) := by decide +kernel
theorem dX11_mixLand_81 : decode cX11_mixLand 81 = .ok (.getfield 190, 3) := by decide +kernel
theorem dX11_mixLand_84 : decode cX11_mixLand 84 = .ok (.if_icmp .ge 31, 3) := by decide +kernel
theorem dX11_mixLand_87 : decode cX11_mixLand 87 = .ok (.aload_n 0, 1) := by decide +kernel
theorem dX11_mixLand_88 : decode cX11_mixLand 88 = .ok (.aload_n 0, 1) := by decide +kernel
theorem dX11_mixLand_89 : decode cX11_mixLand 89 = .ok (.getfield 87, 3) := by decide +kernel
theorem dX11_mixLand_92 : decode cX11_mixLand 92 = .ok (.iload_n 1, 1) := by decide +kernel
theorem dX11_mixLand_93 : decode cX11_mixLand 93 = .ok (.iaload, 1) := by decide +kernel
theorem dX11_mixLand_94 : decode cX11_mixLand 94 = .ok (.i2l, 1) := by decide +kernel
theorem dX11_mixLand_95 : decode cX11_mixLand 95 = .ok (.invokevirtual 346, 3) := by decide +kernel
theorem dX11_mixLand_98 : decode cX11_mixLand 98 = .ok (.aload_n 0, 1) := by decide +kernel
theorem dX11_mixLand_99 : decode cX11_mixLand 99 = .ok (.aload_n 0, 1) := by decide +kernel
theorem dX11_mixLand_100 : decode cX11_mixLand 100 = .ok (.getfield 90, 3) := by decide +kernel
theorem dX11_mixLand_103 : decode cX11_mixLand 103 = .ok (.iload_n 1, 1) := by decide +kernel
theorem dX11_mixLand_104 : decode cX11_mixLand 104 = .ok (.iaload, 1) := by decide +kernel
theorem dX11_mixLand_105 : decode cX11_mixLand 105 = .ok (.i2l, 1) := by decide +kernel
theorem dX11_mixLand_106 : decode cX11_mixLand 106 = .ok (.invokevirtual 346, 3) := by decide +kernel
theorem dX11_mixLand_109 : decode cX11_mixLand 109 = .ok (.iinc 1 1, 3) := by decide +kernel
theorem dX11_mixLand_112 : decode cX11_mixLand 112 = .ok (.goto (-33), 3) := by decide +kernel
theorem dX11_mixLand_115 : decode cX11_mixLand 115 = .ok (.iconst 0, 1) := by decide +kernel
theorem dX11_mixLand_116 : decode cX11_mixLand 116 = .ok (.istore_n 1, 1) := by decide +kernel
theorem dX11_mixLand_117 : decode cX11_mixLand 117 = .ok (.iload_n 1, 1) := by decide +kernel
theorem dX11_mixLand_118 : decode cX11_mixLand 118 = .ok (.iconst 3, 1) := by decide +kernel
theorem dX11_mixLand_119 : decode cX11_mixLand 119 = .ok (.if_icmp .ge 41, 3) := by decide +kernel
theorem dX11_mixLand_122 : decode cX11_mixLand 122 = .ok (.aload_n 0, 1) := by decide +kernel
theorem dX11_mixLand_123 : decode cX11_mixLand 123 = .ok (.aload_n 0, 1) := by decide +kernel
theorem dX11_mixLand_124 : decode cX11_mixLand 124 = .ok (.getfield 59, 3) := by decide +kernel
theorem dX11_mixLand_127 : decode cX11_mixLand 127 = .ok (.iload_n 1, 1) := by decide +kernel
theorem dX11_mixLand_128 : decode cX11_mixLand 128 = .ok (.baload, 1) := by decide +kernel
theorem dX11_mixLand_129 : decode cX11_mixLand 129 = .ok (.ifCond .eq 19, 3) := by decide +kernel
theorem dX11_mixLand_132 : decode cX11_mixLand 132 = .ok (.aload_n 0, 1) := by decide +kernel
theorem dX11_mixLand_133 : decode cX11_mixLand 133 = .ok (.getfield 63, 3) := by decide +kernel
theorem dX11_mixLand_136 : decode cX11_mixLand 136 = .ok (.bipush 30, 2) := by decide +kernel
theorem dX11_mixLand_138 : decode cX11_mixLand 138 = .ok (.iload_n 1, 1) := by decide +kernel
theorem dX11_mixLand_139 : decode cX11_mixLand 139 = .ok (.imul, 1) := by decide +kernel
theorem dX11_mixLand_140 : decode cX11_mixLand 140 = .ok (.bipush 28, 2) := by decide +kernel
theorem dX11_mixLand_142 : decode cX11_mixLand 142 = .ok (.iadd, 1) := by decide +kernel
theorem dX11_mixLand_143 : decode cX11_mixLand 143 = .ok (.iaload, 1) := by decide +kernel
theorem dX11_mixLand_144 : decode cX11_mixLand 144 = .ok (.i2l, 1) := by decide +kernel
theorem dX11_mixLand_145 : decode cX11_mixLand 145 = .ok (.goto 6, 3) := by decide +kernel
theorem dX11_mixLand_148 : decode cX11_mixLand 148 = .ok (.ldc2_w 350, 3) := by decide +kernel
theorem dX11_mixLand_151 : decode cX11_mixLand 151 = .ok (.invokevirtual 346, 3) := by decide +kernel
theorem dX11_mixLand_154 : decode cX11_mixLand 154 = .ok (.iinc 1 1, 3) := by decide +kernel
theorem dX11_mixLand_157 : decode cX11_mixLand 157 = .ok (.goto (-40), 3) := by decide +kernel
theorem dX11_mixLand_160 : decode cX11_mixLand 160 = .ok (.return_, 1) := by decide +kernel
theorem dX11_digest_0 : decode cX11_digest 0 = .ok (.aload_n 0, 1) := by decide +kernel
theorem dX11_digest_1 : decode cX11_digest 1 = .ok (.ldc2_w 352, 3) := by decide +kernel
theorem dX11_digest_4 : decode cX11_digest 4 = .ok (.putfield 342, 3) := by decide +kernel
theorem dX11_digest_7 : decode cX11_digest 7 = .ok (.iconst 0, 1) := by decide +kernel
theorem dX11_digest_8 : decode cX11_digest 8 = .ok (.istore_n 1, 1) := by decide +kernel
theorem dX11_digest_9 : decode cX11_digest 9 = .ok (.iload_n 1, 1) := by decide +kernel
theorem dX11_digest_10 : decode cX11_digest 10 = .ok (.bipush 10, 2) := by decide +kernel
theorem dX11_digest_12 : decode cX11_digest 12 = .ok (.if_icmp .ge 19, 3) := by decide +kernel
theorem dX11_digest_15 : decode cX11_digest 15 = .ok (.aload_n 0, 1) := by decide +kernel
theorem dX11_digest_16 : decode cX11_digest 16 = .ok (.aload_n 0, 1) := by decide +kernel
theorem dX11_digest_17 : decode cX11_digest 17 = .ok (.iload_n 1, 1) := by decide +kernel
theorem dX11_digest_18 : decode cX11_digest 18 = .ok (.invokevirtual 337, 3) := by decide +kernel
theorem dX11_digest_21 : decode cX11_digest 21 = .ok (.i2l, 1) := by decide +kernel
theorem dX11_digest_22 : decode cX11_digest 22 = .ok (.invokevirtual 346, 3) := by decide +kernel
theorem dX11_digest_25 : decode cX11_digest 25 = .ok (.iinc 1 1, 3) := by decide +kernel
theorem dX11_digest_28 : decode cX11_digest 28 = .ok (.goto (-19), 3) := by decide +kernel
theorem dX11_digest_31 : decode cX11_digest 31 = .ok (.aload_n 0, 1) := by decide +kernel
