theorem dL_tells_343 : decode cL_tells 343 = .ok (.invokestatic 104, 3) := by decide +kernel
theorem dL_tells_346 : decode cL_tells 346 = .ok (.iadd, 1) := by decide +kernel
theorem dL_tells_347 : decode cL_tells 347 = .ok (.invokestatic 132, 3) := by decide +kernel
theorem dL_tells_350 : decode cL_tells 350 = .ok (.ifCond .ne 7, 3) := by decide +kernel
theorem dL_tells_353 : decode cL_tells 353 = .ok (.iconst 1, 1) := by decide +kernel
theorem dL_tells_354 : decode cL_tells 354 = .ok (.goto 41, 3) := by decide +kernel
theorem dL_tells_357 : decode cL_tells 357 = .ok (.iconst 0, 1) := by decide +kernel
theorem dL_tells_358 : decode cL_tells 358 = .ok (.goto 37, 3) := by decide +kernel
theorem dL_tells_361 : decode cL_tells 361 = .ok (.aload_n 0, 1) := by decide +kernel
theorem dL_tells_362 : decode cL_tells 362 = .ok (.iload 5, 2) := by decide +kernel
theorem dL_tells_364 : decode cL_tells 364 = .ok (.iconst 1, 1) := by decide +kernel
theorem dL_tells_365 : decode cL_tells 365 = .ok (.ishr, 1) := by decide +kernel
theorem dL_tells_366 : decode cL_tells 366 = .ok (.bipush 20, 2) := by decide +kernel
theorem dL_tells_368 : decode cL_tells 368 = .ok (.invokestatic 104, 3) := by decide +kernel
theorem dL_tells_371 : decode cL_tells 371 = .ok (.bipush 20, 2) := by decide +kernel
theorem dL_tells_373 : decode cL_tells 373 = .ok (.iload 5, 2) := by decide +kernel
theorem dL_tells_375 : decode cL_tells 375 = .ok (.bipush 6, 2) := by decide +kernel
theorem dL_tells_377 : decode cL_tells 377 = .ok (.ishr, 1) := by decide +kernel
theorem dL_tells_378 : decode cL_tells 378 = .ok (.bipush 40, 2) := by decide +kernel
theorem dL_tells_380 : decode cL_tells 380 = .ok (.invokestatic 104, 3) := by decide +kernel
theorem dL_tells_383 : decode cL_tells 383 = .ok (.iadd, 1) := by decide +kernel
theorem dL_tells_384 : decode cL_tells 384 = .ok (.invokestatic 134, 3) := by decide +kernel
theorem dL_tells_387 : decode cL_tells 387 = .ok (.ifCond .ne 7, 3) := by decide +kernel
theorem dL_tells_390 : decode cL_tells 390 = .ok (.iconst 1, 1) := by decide +kernel
theorem dL_tells_391 : decode cL_tells 391 = .ok (.goto 4, 3) := by decide +kernel
theorem dL_tells_394 : decode cL_tells 394 = .ok (.iconst 0, 1) := by decide +kernel
theorem dL_tells_395 : decode cL_tells 395 = .ok (.ireturn, 1) := by decide +kernel
theorem dL_parks_0 : decode cL_parks 0 = .ok (.iload 4, 2) := by decide +kernel
theorem dL_parks_2 : decode cL_parks 2 = .ok (.aload_n 1, 1) := by decide +kernel
theorem dL_parks_3 : decode cL_parks 3 = .ok (.iconst 2, 1) := by decide +kernel
theorem dL_parks_4 : decode cL_parks 4 = .ok (.iaload, 1) := by decide +kernel
theorem dL_parks_5 : decode cL_parks 5 = .ok (.invokestatic 104, 3) := by decide +kernel
theorem dL_parks_8 : decode cL_parks 8 = .ok (.istore 6, 2) := by decide +kernel
theorem dL_parks_10 : decode cL_parks 10 = .ok (.iload 4, 2) := by decide +kernel
theorem dL_parks_12 : decode cL_parks 12 = .ok (.iconst 5, 1) := by decide +kernel
theorem dL_parks_13 : decode cL_parks 13 = .ok (.ishr, 1) := by decide +kernel
theorem dL_parks_14 : decode cL_parks 14 = .ok (.iconst 4, 1) := by decide +kernel
theorem dL_parks_15 : decode cL_parks 15 = .ok (.invokestatic 104, 3) := by decide +kernel
theorem dL_parks_18 : decode cL_parks 18 = .ok (.istore 7, 2) := by decide +kernel
theorem dL_parks_20 : decode cL_parks 20 = .ok (.aload_n 3, 1) := by decide +kernel
theorem dL_parks_21 : decode cL_parks 21 = .ok (.iload 6, 2) := by decide +kernel
theorem dL_parks_23 : decode cL_parks 23 = .ok (.iaload, 1) := by decide +kernel
theorem dL_parks_24 : decode cL_parks 24 = .ok (.ifCond .lt 82, 3) := by decide +kernel
theorem dL_parks_27 : decode cL_parks 27 = .ok (.aload_n 3, 1) := by decide +kernel
theorem dL_parks_28 : decode cL_parks 28 = .ok (.iload 6, 2) := by decide +kernel
theorem dL_parks_30 : decode cL_parks 30 = .ok (.iaload, 1) := by decide +kernel
theorem dL_parks_31 : decode cL_parks 31 = .ok (.istore 8, 2) := by decide +kernel
theorem dL_parks_33 : decode cL_parks 33 = .ok (.aload_n 3, 1) := by decide +kernel
theorem dL_parks_34 : decode cL_parks 34 = .ok (.iload 6, 2) := by decide +kernel
theorem dL_parks_36 : decode cL_parks 36 = .ok (.iload 5, 2) := by decide +kernel
theorem dL_parks_38 : decode cL_parks 38 = .ok (.iconst 3, 1) := by decide +kernel
theorem dL_parks_39 : decode cL_parks 39 = .ok (.invokestatic 104, 3) := by decide +kernel
theorem dL_parks_42 : decode cL_parks 42 = .ok (.ifCond .ne 7, 3) := by decide +kernel
theorem dL_parks_45 : decode cL_parks 45 = .ok (.iconst (-1), 1) := by decide +kernel
theorem dL_parks_46 : decode cL_parks 46 = .ok (.goto 5, 3) := by decide +kernel
theorem dL_parks_49 : decode cL_parks 49 = .ok (.iload 8, 2) := by decide +kernel
theorem dL_parks_51 : decode cL_parks 51 = .ok (.iastore, 1) := by decide +kernel
theorem dL_parks_52 : decode cL_parks 52 = .ok (.aload_n 3, 1) := by decide +kernel
theorem dL_parks_53 : decode cL_parks 53 = .ok (.iload 6, 2) := by decide +kernel
theorem dL_parks_55 : decode cL_parks 55 = .ok (.iaload, 1) := by decide +kernel
theorem dL_parks_56 : decode cL_parks 56 = .ok (.ifCond .lt 25, 3) := by decide +kernel
theorem dL_parks_59 : decode cL_parks 59 = .ok (.aload_n 0, 1) := by decide +kernel
theorem dL_parks_60 : decode cL_parks 60 = .ok (.iload 6, 2) := by decide +kernel
theorem dL_parks_62 : decode cL_parks 62 = .ok (.iload 7, 2) := by decide +kernel
theorem dL_parks_64 : decode cL_parks 64 = .ok (.iconst 0, 1) := by decide +kernel
theorem dL_parks_65 : decode cL_parks 65 = .ok (.invokestatic 136, 3) := by decide +kernel
theorem dL_parks_68 : decode cL_parks 68 = .ok (.ldc 36, 2) := by decide +kernel
theorem dL_parks_70 : decode cL_parks 70 = .ok (.if_icmp .ne 7, 3) := by decide +kernel
theorem dL_parks_73 : decode cL_parks 73 = .ok (.iconst 1, 1) := by decide +kernel
theorem dL_parks_74 : decode cL_parks 74 = .ok (.goto 31, 3) := by decide +kernel
theorem dL_parks_77 : decode cL_parks 77 = .ok (.iconst 0, 1) := by decide +kernel
theorem dL_parks_78 : decode cL_parks 78 = .ok (.goto 27, 3) := by decide +kernel
theorem dL_parks_81 : decode cL_parks 81 = .ok (.aload_n 0, 1) := by decide +kernel
theorem dL_parks_82 : decode cL_parks 82 = .ok (.iload 6, 2) := by decide +kernel
theorem dL_parks_84 : decode cL_parks 84 = .ok (.invokestatic 138, 3) := by decide +kernel
theorem dL_parks_87 : decode cL_parks 87 = .ok (.ifCond .lt 17, 3) := by decide +kernel
theorem dL_parks_90 : decode cL_parks 90 = .ok (.aload_n 0, 1) := by decide +kernel
theorem dL_parks_91 : decode cL_parks 91 = .ok (.iload 6, 2) := by decide +kernel
theorem dL_parks_93 : decode cL_parks 93 = .ok (.invokestatic 125, 3) := by decide +kernel
theorem dL_parks_96 : decode cL_parks 96 = .ok (.iconst (-1), 1) := by decide +kernel
theorem dL_parks_97 : decode cL_parks 97 = .ok (.if_icmp .ne 7, 3) := by decide +kernel
theorem dL_parks_100 : decode cL_parks 100 = .ok (.iconst 1, 1) := by decide +kernel
theorem dL_parks_101 : decode cL_parks 101 = .ok (.goto 4, 3) := by decide +kernel
theorem dL_parks_104 : decode cL_parks 104 = .ok (.iconst 0, 1) := by decide +kernel
theorem dL_parks_105 : decode cL_parks 105 = .ok (.ireturn, 1) := by decide +kernel
theorem dL_parks_106 : decode cL_parks 106 = .ok (.aload_n 0, 1) := by decide +kernel
theorem dL_parks_107 : decode cL_parks 107 = .ok (.iload 7, 2) := by decide +kernel
theorem dL_parks_109 : decode cL_parks 109 = .ok (.aload_n 2, 1) := by decide +kernel
theorem dL_parks_110 : decode cL_parks 110 = .ok (.iload 6, 2) := by decide +kernel
theorem dL_parks_112 : decode cL_parks 112 = .ok (.iaload, 1) := by decide +kernel
theorem dL_parks_113 : decode cL_parks 113 = .ok (.invokestatic 140, 3) := by decide +kernel
theorem dL_parks_116 : decode cL_parks 116 = .ok (.istore 8, 2) := by decide +kernel
theorem dL_parks_118 : decode cL_parks 118 = .ok (.iload 5, 2) := by decide +kernel
theorem dL_parks_120 : decode cL_parks 120 = .ok (.iconst 3, 1) := by decide +kernel
theorem dL_parks_121 : decode cL_parks 121 = .ok (.invokestatic 104, 3) := by decide +kernel
theorem dL_parks_124 : decode cL_parks 124 = .ok (.ifCond .ne 15, 3) := by decide +kernel
theorem dL_parks_127 : decode cL_parks 127 = .ok (.iload 5, 2) := by decide +kernel
theorem dL_parks_129 : decode cL_parks 129 = .ok (.iconst 2, 1) := by decide +kernel
theorem dL_parks_130 : decode cL_parks 130 = .ok (.ishr, 1) := by decide +kernel
theorem dL_parks_131 : decode cL_parks 131 = .ok (.bipush 60, 2) := by decide +kernel
theorem dL_parks_133 : decode cL_parks 133 = .ok (.invokestatic 104, 3) := by decide +kernel
theorem dL_parks_136 : decode cL_parks 136 = .ok (.goto 14, 3) := by decide +kernel
theorem dL_parks_139 : decode cL_parks 139 = .ok (.iload 8, 2) := by decide +kernel
theorem dL_parks_141 : decode cL_parks 141 = .ok (.ifCond .ge 7, 3) := by decide +kernel
theorem dL_parks_144 : decode cL_parks 144 = .ok (.iconst 0, 1) := by decide +kernel
theorem dL_parks_145 : decode cL_parks 145 = .ok (.goto 5, 3) := by decide +kernel
theorem dL_parks_148 : decode cL_parks 148 = .ok (.iload 8, 2) := by decide +kernel
theorem dL_parks_150 : decode cL_parks 150 = .ok (.istore 9, 2) := by decide +kernel
theorem dL_parks_152 : decode cL_parks 152 = .ok (.aload_n 0, 1) := by decide +kernel
theorem dL_parks_153 : decode cL_parks 153 = .ok (.iload 6, 2) := by decide +kernel
theorem dL_parks_155 : decode cL_parks 155 = .ok (.iload 7, 2) := by decide +kernel
theorem dL_parks_157 : decode cL_parks 157 = .ok (.iload 9, 2) := by decide +kernel
theorem dL_parks_159 : decode cL_parks 159 = .ok (.invokestatic 136, 3) := by decide +kernel
theorem dL_parks_162 : decode cL_parks 162 = .ok (.istore 10, 2) := by decide +kernel
theorem dL_parks_164 : decode cL_parks 164 = .ok (.iload 8, 2) := by decide +kernel
theorem dL_parks_166 : decode cL_parks 166 = .ok (.ifCond .lt 10, 3) := by decide +kernel
theorem dL_parks_169 : decode cL_parks 169 = .ok (.iload 9, 2) := by decide +kernel
theorem dL_parks_171 : decode cL_parks 171 = .ok (.iload 8, 2) := by decide +kernel
theorem dL_parks_173 : decode cL_parks 173 = .ok (.if_icmp .ge 27, 3) := by decide +kernel
theorem dL_parks_176 : decode cL_parks 176 = .ok (.iload 10, 2) := by decide +kernel
theorem dL_parks_178 : decode cL_parks 178 = .ok (.ldc 36, 2) := by decide +kernel
theorem dL_parks_180 : decode cL_parks 180 = .ok (.if_icmp .ne 18, 3) := by decide +kernel
theorem dL_parks_183 : decode cL_parks 183 = .ok (.aload_n 0, 1) := by decide +kernel
theorem dL_parks_184 : decode cL_parks 184 = .ok (.iload 6, 2) := by decide +kernel
theorem dL_parks_186 : decode cL_parks 186 = .ok (.invokestatic 138, 3) := by decide +kernel
theorem dL_parks_189 : decode cL_parks 189 = .ok (.ldc 36, 2) := by decide +kernel
theorem dL_parks_191 : decode cL_parks 191 = .ok (.if_icmp .ne 7, 3) := by decide +kernel
theorem dL_parks_194 : decode cL_parks 194 = .ok (.iconst 1, 1) := by decide +kernel
theorem dL_parks_195 : decode cL_parks 195 = .ok (.goto 4, 3) := by decide +kernel
theorem dL_parks_198 : decode cL_parks 198 = .ok (.iconst 0, 1) := by decide +kernel
theorem dL_parks_199 : decode cL_parks 199 = .ok (.ireturn, 1) := by decide +kernel
theorem dL_parks_200 : decode cL_parks 200 = .ok (.aload_n 3, 1) := by decide +kernel
theorem dL_parks_201 : decode cL_parks 201 = .ok (.iload 6, 2) := by decide +kernel
theorem dL_parks_203 : decode cL_parks 203 = .ok (.iload 10, 2) := by decide +kernel
theorem dL_parks_205 : decode cL_parks 205 = .ok (.ifCond .ne 8, 3) := by decide +kernel
theorem dL_parks_208 : decode cL_parks 208 = .ok (.iload 7, 2) := by decide +kernel
theorem dL_parks_210 : decode cL_parks 210 = .ok (.goto 4, 3) := by decide +kernel
theorem dL_parks_213 : decode cL_parks 213 = .ok (.iconst (-1), 1) := by decide +kernel
theorem dL_parks_214 : decode cL_parks 214 = .ok (.iastore, 1) := by decide +kernel
theorem dL_parks_215 : decode cL_parks 215 = .ok (.iload 9, 2) := by decide +kernel
theorem dL_parks_217 : decode cL_parks 217 = .ok (.aload_n 2, 1) := by decide +kernel
theorem dL_parks_218 : decode cL_parks 218 = .ok (.iload 6, 2) := by decide +kernel
theorem dL_parks_220 : decode cL_parks 220 = .ok (.iaload, 1) := by decide +kernel
theorem dL_parks_221 : decode cL_parks 221 = .ok (.iadd, 1) := by decide +kernel
theorem dL_parks_222 : decode cL_parks 222 = .ok (.bipush 60, 2) := by decide +kernel
theorem dL_parks_224 : decode cL_parks 224 = .ok (.if_icmp .le 18, 3) := by decide +kernel
theorem dL_parks_227 : decode cL_parks 227 = .ok (.iload 10, 2) := by decide +kernel
theorem dL_parks_229 : decode cL_parks 229 = .ok (.ldc 36, 2) := by decide +kernel
theorem dL_parks_231 : decode cL_parks 231 = .ok (.if_icmp .ne 7, 3) := by decide +kernel
theorem dL_parks_234 : decode cL_parks 234 = .ok (.iconst 1, 1) := by decide +kernel
theorem dL_parks_235 : decode cL_parks 235 = .ok (.goto 46, 3) := by decide +kernel
theorem dL_parks_238 : decode cL_parks 238 = .ok (.iconst 0, 1) := by decide +kernel
theorem dL_parks_239 : decode cL_parks 239 = .ok (.goto 42, 3) := by decide +kernel
theorem dL_parks_242 : decode cL_parks 242 = .ok (.iload 10, 2) := by decide +kernel
theorem dL_parks_244 : decode cL_parks 244 = .ok (.iload 9, 2) := by decide +kernel
theorem dL_parks_246 : decode cL_parks 246 = .ok (.iload 8, 2) := by decide +kernel
theorem dL_parks_248 : decode cL_parks 248 = .ok (.if_icmp .ne 7, 3) := by decide +kernel
theorem dL_parks_251 : decode cL_parks 251 = .ok (.iconst 0, 1) := by decide +kernel
theorem dL_parks_252 : decode cL_parks 252 = .ok (.goto 5, 3) := by decide +kernel
theorem dL_parks_255 : decode cL_parks 255 = .ok (.iload 10, 2) := by decide +kernel
theorem dL_parks_257 : decode cL_parks 257 = .ok (.if_icmp .ne 23, 3) := by decide +kernel
theorem dL_parks_260 : decode cL_parks 260 = .ok (.iload 10, 2) := by decide +kernel
theorem dL_parks_262 : decode cL_parks 262 = .ok (.ldc 36, 2) := by decide +kernel
theorem dL_parks_264 : decode cL_parks 264 = .ok (.if_icmp .eq 12, 3) := by decide +kernel
theorem dL_parks_267 : decode cL_parks 267 = .ok (.aload_n 0, 1) := by decide +kernel
theorem dL_parks_268 : decode cL_parks 268 = .ok (.iload 6, 2) := by decide +kernel
theorem dL_parks_270 : decode cL_parks 270 = .ok (.invokestatic 125, 3) := by decide +kernel
theorem dL_parks_273 : decode cL_parks 273 = .ok (.ifCond .lt 7, 3) := by decide +kernel
theorem dL_parks_276 : decode cL_parks 276 = .ok (.iconst 1, 1) := by decide +kernel
theorem dL_parks_277 : decode cL_parks 277 = .ok (.goto 4, 3) := by decide +kernel
theorem dL_parks_280 : decode cL_parks 280 = .ok (.iconst 0, 1) := by decide +kernel
theorem dL_parks_281 : decode cL_parks 281 = .ok (.ireturn, 1) := by decide +kernel
theorem dL_pays_0 : decode cL_pays 0 = .ok (.iload_n 2, 1) := by decide +kernel
theorem dL_pays_1 : decode cL_pays 1 = .ok (.aload_n 1, 1) := by decide +kernel
theorem dL_pays_2 : decode cL_pays 2 = .ok (.iconst 2, 1) := by decide +kernel
theorem dL_pays_3 : decode cL_pays 3 = .ok (.iaload, 1) := by decide +kernel
theorem dL_pays_4 : decode cL_pays 4 = .ok (.invokestatic 104, 3) := by decide +kernel
theorem dL_pays_7 : decode cL_pays 7 = .ok (.istore 4, 2) := by decide +kernel
theorem dL_pays_9 : decode cL_pays 9 = .ok (.iload_n 2, 1) := by decide +kernel
theorem dL_pays_10 : decode cL_pays 10 = .ok (.iconst 5, 1) := by decide +kernel
theorem dL_pays_11 : decode cL_pays 11 = .ok (.ishr, 1) := by decide +kernel
theorem dL_pays_12 : decode cL_pays 12 = .ok (.iconst 4, 1) := by decide +kernel
theorem dL_pays_13 : decode cL_pays 13 = .ok (.invokestatic 104, 3) := by decide +kernel
theorem dL_pays_16 : decode cL_pays 16 = .ok (.istore 5, 2) := by decide +kernel
theorem dL_pays_18 : decode cL_pays 18 = .ok (.aload_n 1, 1) := by decide +kernel
theorem dL_pays_19 : decode cL_pays 19 = .ok (.iconst 0, 1) := by decide +kernel
theorem dL_pays_20 : decode cL_pays 20 = .ok (.iaload, 1) := by decide +kernel
theorem dL_pays_21 : decode cL_pays 21 = .ok (.iload_n 3, 1) := by decide +kernel
theorem dL_pays_22 : decode cL_pays 22 = .ok (.bipush 120, 2) := by decide +kernel
theorem dL_pays_24 : decode cL_pays 24 = .ok (.invokestatic 104, 3) := by decide +kernel
theorem dL_pays_27 : decode cL_pays 27 = .ok (.isub, 1) := by decide +kernel
theorem dL_pays_28 : decode cL_pays 28 = .ok (.istore 6, 2) := by decide +kernel
theorem dL_pays_30 : decode cL_pays 30 = .ok (.iconst 1, 1) := by decide +kernel
theorem dL_pays_31 : decode cL_pays 31 = .ok (.iload_n 3, 1) := by decide +kernel
theorem dL_pays_32 : decode cL_pays 32 = .ok (.bipush 7, 2) := by decide +kernel
theorem dL_pays_34 : decode cL_pays 34 = .ok (.ishr, 1) := by decide +kernel
theorem dL_pays_35 : decode cL_pays 35 = .ok (.bipush 96, 2) := by decide +kernel
theorem dL_pays_37 : decode cL_pays 37 = .ok (.invokestatic 104, 3) := by decide +kernel
theorem dL_pays_40 : decode cL_pays 40 = .ok (.iadd, 1) := by decide +kernel
theorem dL_pays_41 : decode cL_pays 41 = .ok (.istore 7, 2) := by decide +kernel
theorem dL_pays_43 : decode cL_pays 43 = .ok (.aload_n 0, 1) := by decide +kernel
theorem dL_pays_44 : decode cL_pays 44 = .ok (.iload 5, 2) := by decide +kernel
theorem dL_pays_46 : decode cL_pays 46 = .ok (.iconst 2, 1) := by decide +kernel
theorem dL_pays_47 : decode cL_pays 47 = .ok (.invokestatic 115, 3) := by decide +kernel
theorem dL_pays_50 : decode cL_pays 50 = .ok (.istore 8, 2) := by decide +kernel
theorem dL_pays_52 : decode cL_pays 52 = .ok (.aload_n 0, 1) := by decide +kernel
theorem dL_pays_53 : decode cL_pays 53 = .ok (.iload 4, 2) := by decide +kernel
theorem dL_pays_55 : decode cL_pays 55 = .ok (.iload 5, 2) := by decide +kernel
theorem dL_pays_57 : decode cL_pays 57 = .ok (.iload 6, 2) := by decide +kernel
theorem dL_pays_59 : decode cL_pays 59 = .ok (.iload 7, 2) := by decide +kernel
theorem dL_pays_61 : decode cL_pays 61 = .ok (.invokestatic 142, 3) := by decide +kernel
theorem dL_pays_64 : decode cL_pays 64 = .ok (.istore 9, 2) := by decide +kernel
theorem dL_pays_66 : decode cL_pays 66 = .ok (.iload 6, 2) := by decide +kernel
theorem dL_pays_68 : decode cL_pays 68 = .ok (.ifCond .lt 14, 3) := by decide +kernel
theorem dL_pays_71 : decode cL_pays 71 = .ok (.aload_n 1, 1) := by decide +kernel
theorem dL_pays_72 : decode cL_pays 72 = .ok (.iconst 0, 1) := by decide +kernel
theorem dL_pays_73 : decode cL_pays 73 = .ok (.iaload, 1) := by decide +kernel
theorem dL_pays_74 : decode cL_pays 74 = .ok (.iload 6, 2) := by decide +kernel
theorem dL_pays_76 : decode cL_pays 76 = .ok (.isub, 1) := by decide +kernel
theorem dL_pays_77 : decode cL_pays 77 = .ok (.bipush 96, 2) := by decide +kernel
theorem dL_pays_79 : decode cL_pays 79 = .ok (.if_icmp .le 16, 3) := by decide +kernel
theorem dL_pays_82 : decode cL_pays 82 = .ok (.iload 9, 2) := by decide +kernel
theorem dL_pays_84 : decode cL_pays 84 = .ok (.ldc 25, 2) := by decide +kernel
theorem dL_pays_86 : decode cL_pays 86 = .ok (.if_icmp .ne 7, 3) := by decide +kernel
theorem dL_pays_89 : decode cL_pays 89 = .ok (.iconst 1, 1) := by decide +kernel
theorem dL_pays_90 : decode cL_pays 90 = .ok (.goto 4, 3) := by decide +kernel
theorem dL_pays_93 : decode cL_pays 93 = .ok (.iconst 0, 1) := by decide +kernel
theorem dL_pays_94 : decode cL_pays 94 = .ok (.ireturn, 1) := by decide +kernel
theorem dL_pays_95 : decode cL_pays 95 = .ok (.aload_n 1, 1) := by decide +kernel
theorem dL_pays_96 : decode cL_pays 96 = .ok (.iconst 4, 1) := by decide +kernel
theorem dL_pays_97 : decode cL_pays 97 = .ok (.dup2, 1) := by decide +kernel
theorem dL_pays_98 : decode cL_pays 98 = .ok (.iaload, 1) := by decide +kernel
theorem dL_pays_99 : decode cL_pays 99 = .ok (.iconst 1, 1) := by decide +kernel
theorem dL_pays_100 : decode cL_pays 100 = .ok (.iadd, 1) := by decide +kernel
theorem dL_pays_101 : decode cL_pays 101 = .ok (.iastore, 1) := by decide +kernel
theorem dL_pays_102 : decode cL_pays 102 = .ok (.iload 9, 2) := by decide +kernel
theorem dL_pays_104 : decode cL_pays 104 = .ok (.iload 7, 2) := by decide +kernel
theorem dL_pays_106 : decode cL_pays 106 = .ok (.aload_n 0, 1) := by decide +kernel
theorem dL_pays_107 : decode cL_pays 107 = .ok (.iload 5, 2) := by decide +kernel
theorem dL_pays_109 : decode cL_pays 109 = .ok (.iconst 0, 1) := by decide +kernel
theorem dL_pays_110 : decode cL_pays 110 = .ok (.invokestatic 115, 3) := by decide +kernel
theorem dL_pays_113 : decode cL_pays 113 = .ok (.imul, 1) := by decide +kernel
theorem dL_pays_114 : decode cL_pays 114 = .ok (.if_icmp .ne 22, 3) := by decide +kernel
theorem dL_pays_117 : decode cL_pays 117 = .ok (.aload_n 0, 1) := by decide +kernel
theorem dL_pays_118 : decode cL_pays 118 = .ok (.iload 5, 2) := by decide +kernel
theorem dL_pays_120 : decode cL_pays 120 = .ok (.iconst 2, 1) := by decide +kernel
theorem dL_pays_121 : decode cL_pays 121 = .ok (.invokestatic 115, 3) := by decide +kernel
theorem dL_pays_124 : decode cL_pays 124 = .ok (.iload 8, 2) := by decide +kernel
theorem dL_pays_126 : decode cL_pays 126 = .ok (.iload 9, 2) := by decide +kernel
theorem dL_pays_128 : decode cL_pays 128 = .ok (.iadd, 1) := by decide +kernel
theorem dL_pays_129 : decode cL_pays 129 = .ok (.if_icmp .ne 7, 3) := by decide +kernel
theorem dL_pays_132 : decode cL_pays 132 = .ok (.iconst 1, 1) := by decide +kernel
theorem dL_pays_133 : decode cL_pays 133 = .ok (.goto 4, 3) := by decide +kernel
theorem dL_pays_136 : decode cL_pays 136 = .ok (.iconst 0, 1) := by decide +kernel
theorem dL_pays_137 : decode cL_pays 137 = .ok (.ireturn, 1) := by decide +kernel
theorem dL_looks_0 : decode cL_looks 0 = .ok (.iload_n 3, 1) := by decide +kernel
theorem dL_looks_1 : decode cL_looks 1 = .ok (.iconst 4, 1) := by decide +kernel
theorem dL_looks_2 : decode cL_looks 2 = .ok (.invokestatic 104, 3) := by decide +kernel
theorem dL_looks_5 : decode cL_looks 5 = .ok (.istore 4, 2) := by decide +kernel
theorem dL_looks_7 : decode cL_looks 7 = .ok (.iconst 0, 1) := by decide +kernel
theorem dL_looks_8 : decode cL_looks 8 = .ok (.istore 5, 2) := by decide +kernel
theorem dL_looks_10 : decode cL_looks 10 = .ok (.iconst 0, 1) := by decide +kernel
theorem dL_looks_11 : decode cL_looks 11 = .ok (.istore 6, 2) := by decide +kernel
theorem dL_looks_13 : decode cL_looks 13 = .ok (.iload 6, 2) := by decide +kernel
theorem dL_looks_15 : decode cL_looks 15 = .ok (.aload_n 1, 1) := by decide +kernel
theorem dL_looks_16 : decode cL_looks 16 = .ok (.iconst 2, 1) := by decide +kernel
theorem dL_looks_17 : decode cL_looks 17 = .ok (.iaload, 1) := by decide +kernel
theorem dL_looks_18 : decode cL_looks 18 = .ok (.if_icmp .ge 37, 3) := by decide +kernel
theorem dL_looks_21 : decode cL_looks 21 = .ok (.iload 5, 2) := by decide +kernel
theorem dL_looks_23 : decode cL_looks 23 = .ok (.aload_n 2, 1) := by decide +kernel
theorem dL_looks_24 : decode cL_looks 24 = .ok (.iload 6, 2) := by decide +kernel
theorem dL_looks_26 : decode cL_looks 26 = .ok (.iaload, 1) := by decide +kernel
theorem dL_looks_27 : decode cL_looks 27 = .ok (.iload 4, 2) := by decide +kernel
theorem dL_looks_29 : decode cL_looks 29 = .ok (.if_icmp .ne 16, 3) := by decide +kernel
theorem dL_looks_32 : decode cL_looks 32 = .ok (.aload_n 0, 1) := by decide +kernel
theorem dL_looks_33 : decode cL_looks 33 = .ok (.iload 6, 2) := by decide +kernel
theorem dL_looks_35 : decode cL_looks 35 = .ok (.invokestatic 125, 3) := by decide +kernel
theorem dL_looks_38 : decode cL_looks 38 = .ok (.ifCond .le 7, 3) := by decide +kernel
theorem dL_looks_41 : decode cL_looks 41 = .ok (.iconst 1, 1) := by decide +kernel
theorem dL_looks_42 : decode cL_looks 42 = .ok (.goto 4, 3) := by decide +kernel
theorem dL_looks_45 : decode cL_looks 45 = .ok (.iconst 0, 1) := by decide +kernel
theorem dL_looks_46 : decode cL_looks 46 = .ok (.iadd, 1) := by decide +kernel
theorem dL_looks_47 : decode cL_looks 47 = .ok (.istore 5, 2) := by decide +kernel
theorem dL_looks_49 : decode cL_looks 49 = .ok (.iinc 6 1, 3) := by decide +kernel
theorem dL_looks_52 : decode cL_looks 52 = .ok (.goto (-39), 3) := by decide +kernel
theorem dL_looks_55 : decode cL_looks 55 = .ok (.aload_n 0, 1) := by decide +kernel
theorem dL_looks_56 : decode cL_looks 56 = .ok (.iload 4, 2) := by decide +kernel
theorem dL_looks_58 : decode cL_looks 58 = .ok (.invokestatic 145, 3) := by decide +kernel
theorem dL_looks_61 : decode cL_looks 61 = .ok (.istore 6, 2) := by decide +kernel
theorem dL_looks_63 : decode cL_looks 63 = .ok (.aload_n 1, 1) := by decide +kernel
theorem dL_looks_64 : decode cL_looks 64 = .ok (.iconst 5, 1) := by decide +kernel
theorem dL_looks_65 : decode cL_looks 65 = .ok (.dup2, 1) := by decide +kernel
theorem dL_looks_66 : decode cL_looks 66 = .ok (.iaload, 1) := by decide +kernel
theorem dL_looks_67 : decode cL_looks 67 = .ok (.iload 6, 2) := by decide +kernel
theorem dL_looks_69 : decode cL_looks 69 = .ok (.iadd, 1) := by decide +kernel
theorem dL_looks_70 : decode cL_looks 70 = .ok (.iastore, 1) := by decide +kernel
theorem dL_looks_71 : decode cL_looks 71 = .ok (.iload 6, 2) := by decide +kernel
theorem dL_looks_73 : decode cL_looks 73 = .ok (.ifCond .lt 67, 3) := by decide +kernel
theorem dL_looks_76 : decode cL_looks 76 = .ok (.iload 6, 2) := by decide +kernel
theorem dL_looks_78 : decode cL_looks 78 = .ok (.iload 5, 2) := by decide +kernel
theorem dL_looks_80 : decode cL_looks 80 = .ok (.if_icmp .gt 60, 3) := by decide +kernel
theorem dL_looks_83 : decode cL_looks 83 = .ok (.aload_n 1, 1) := by decide +kernel
theorem dL_looks_84 : decode cL_looks 84 = .ok (.iconst 5, 1) := by decide +kernel
theorem dL_looks_85 : decode cL_looks 85 = .ok (.iaload, 1) := by decide +kernel
theorem dL_looks_86 : decode cL_looks 86 = .ok (.bipush 60, 2) := by decide +kernel
theorem dL_looks_88 : decode cL_looks 88 = .ok (.if_icmp .gt 52, 3) := by decide +kernel
theorem dL_looks_91 : decode cL_looks 91 = .ok (.iload 6, 2) := by decide +kernel
theorem dL_looks_93 : decode cL_looks 93 = .ok (.ifCond .eq 34, 3) := by decide +kernel
theorem dL_looks_96 : decode cL_looks 96 = .ok (.aload_n 0, 1) := by decide +kernel
theorem dL_looks_97 : decode cL_looks 97 = .ok (.aload_n 1, 1) := by decide +kernel
theorem dL_looks_98 : decode cL_looks 98 = .ok (.iconst 5, 1) := by decide +kernel
theorem dL_looks_99 : decode cL_looks 99 = .ok (.iaload, 1) := by decide +kernel
theorem dL_looks_100 : decode cL_looks 100 = .ok (.iconst 1, 1) := by decide +kernel
theorem dL_looks_101 : decode cL_looks 101 = .ok (.isub, 1) := by decide +kernel
theorem dL_looks_102 : decode cL_looks 102 = .ok (.iconst 1, 1) := by decide +kernel
theorem dL_looks_103 : decode cL_looks 103 = .ok (.invokestatic 118, 3) := by decide +kernel
theorem dL_looks_106 : decode cL_looks 106 = .ok (.iload 4, 2) := by decide +kernel
theorem dL_looks_108 : decode cL_looks 108 = .ok (.if_icmp .ne 32, 3) := by decide +kernel
theorem dL_looks_111 : decode cL_looks 111 = .ok (.aload_n 0, 1) := by decide +kernel
theorem dL_looks_112 : decode cL_looks 112 = .ok (.aload_n 1, 1) := by decide +kernel
theorem dL_looks_113 : decode cL_looks 113 = .ok (.iconst 5, 1) := by decide +kernel
theorem dL_looks_114 : decode cL_looks 114 = .ok (.iaload, 1) := by decide +kernel
theorem dL_looks_115 : decode cL_looks 115 = .ok (.iconst 1, 1) := by decide +kernel
theorem dL_looks_116 : decode cL_looks 116 = .ok (.isub, 1) := by decide +kernel
theorem dL_looks_117 : decode cL_looks 117 = .ok (.iconst 2, 1) := by decide +kernel
theorem dL_looks_118 : decode cL_looks 118 = .ok (.invokestatic 118, 3) := by decide +kernel
theorem dL_looks_121 : decode cL_looks 121 = .ok (.aload_n 1, 1) := by decide +kernel
theorem dL_looks_122 : decode cL_looks 122 = .ok (.iconst 0, 1) := by decide +kernel
theorem dL_looks_123 : decode cL_looks 123 = .ok (.iaload, 1) := by decide +kernel
theorem dL_looks_124 : decode cL_looks 124 = .ok (.if_icmp .ne 16, 3) := by decide +kernel
theorem dL_looks_127 : decode cL_looks 127 = .ok (.aload_n 0, 1) := by decide +kernel
theorem dL_looks_128 : decode cL_looks 128 = .ok (.iload 4, 2) := by decide +kernel
theorem dL_looks_130 : decode cL_looks 130 = .ok (.invokestatic 145, 3) := by decide +kernel
theorem dL_looks_133 : decode cL_looks 133 = .ok (.ifCond .ne 7, 3) := by decide +kernel
theorem dL_looks_136 : decode cL_looks 136 = .ok (.iconst 1, 1) := by decide +kernel
theorem dL_looks_137 : decode cL_looks 137 = .ok (.goto 4, 3) := by decide +kernel
theorem dL_looks_140 : decode cL_looks 140 = .ok (.iconst 0, 1) := by decide +kernel
theorem dL_looks_141 : decode cL_looks 141 = .ok (.ireturn, 1) := by decide +kernel
theorem dL_settles_0 : decode cL_settles 0 = .ok (.iload_n 3, 1) := by decide +kernel
theorem dL_settles_1 : decode cL_settles 1 = .ok (.aload_n 1, 1) := by decide +kernel
theorem dL_settles_2 : decode cL_settles 2 = .ok (.iconst 5, 1) := by decide +kernel
theorem dL_settles_3 : decode cL_settles 3 = .ok (.iaload, 1) := by decide +kernel
theorem dL_settles_4 : decode cL_settles 4 = .ok (.invokestatic 104, 3) := by decide +kernel
theorem dL_settles_7 : decode cL_settles 7 = .ok (.istore 5, 2) := by decide +kernel
theorem dL_settles_9 : decode cL_settles 9 = .ok (.aload_n 0, 1) := by decide +kernel
theorem dL_settles_10 : decode cL_settles 10 = .ok (.iload 5, 2) := by decide +kernel
theorem dL_settles_12 : decode cL_settles 12 = .ok (.iconst 0, 1) := by decide +kernel
theorem dL_settles_13 : decode cL_settles 13 = .ok (.invokestatic 118, 3) := by decide +kernel
theorem dL_settles_16 : decode cL_settles 16 = .ok (.istore 6, 2) := by decide +kernel
theorem dL_settles_18 : decode cL_settles 18 = .ok (.aload_n 0, 1) := by decide +kernel
theorem dL_settles_19 : decode cL_settles 19 = .ok (.iload 6, 2) := by decide +kernel
theorem dL_settles_21 : decode cL_settles 21 = .ok (.invokestatic 120, 3) := by decide +kernel
theorem dL_settles_24 : decode cL_settles 24 = .ok (.istore 7, 2) := by decide +kernel
theorem dL_settles_26 : decode cL_settles 26 = .ok (.aload_n 0, 1) := by decide +kernel
theorem dL_settles_27 : decode cL_settles 27 = .ok (.iload 5, 2) := by decide +kernel
theorem dL_settles_29 : decode cL_settles 29 = .ok (.iconst 4, 1) := by decide +kernel
theorem dL_settles_30 : decode cL_settles 30 = .ok (.invokestatic 118, 3) := by decide +kernel
theorem dL_settles_33 : decode cL_settles 33 = .ok (.aload_n 0, 1) := by decide +kernel
theorem dL_settles_34 : decode cL_settles 34 = .ok (.iload 5, 2) := by decide +kernel
theorem dL_settles_36 : decode cL_settles 36 = .ok (.iconst 5, 1) := by decide +kernel
theorem dL_settles_37 : decode cL_settles 37 = .ok (.invokestatic 118, 3) := by decide +kernel
theorem dL_settles_40 : decode cL_settles 40 = .ok (.iadd, 1) := by decide +kernel
theorem dL_settles_41 : decode cL_settles 41 = .ok (.ifCond .ne 7, 3) := by decide +kernel
theorem dL_settles_44 : decode cL_settles 44 = .ok (.iconst 1, 1) := by decide +kernel
theorem dL_settles_45 : decode cL_settles 45 = .ok (.goto 4, 3) := by decide +kernel
theorem dL_settles_48 : decode cL_settles 48 = .ok (.iconst 0, 1) := by decide +kernel
theorem dL_settles_49 : decode cL_settles 49 = .ok (.istore 8, 2) := by decide +kernel
theorem dL_settles_51 : decode cL_settles 51 = .ok (.iload 4, 2) := by decide +kernel
theorem dL_settles_53 : decode cL_settles 53 = .ok (.iconst 3, 1) := by decide +kernel
theorem dL_settles_54 : decode cL_settles 54 = .ok (.invokestatic 104, 3) := by decide +kernel
theorem dL_settles_57 : decode cL_settles 57 = .ok (.ifCond .ne 80, 3) := by decide +kernel
theorem dL_settles_60 : decode cL_settles 60 = .ok (.aload_n 0, 1) := by decide +kernel
theorem dL_settles_61 : decode cL_settles 61 = .ok (.iload 5, 2) := by decide +kernel
theorem dL_settles_63 : decode cL_settles 63 = .ok (.invokestatic 147, 3) := by decide +kernel
theorem dL_settles_66 : decode cL_settles 66 = .ok (.istore 9, 2) := by decide +kernel
theorem dL_settles_68 : decode cL_settles 68 = .ok (.iload 8, 2) := by decide +kernel
theorem dL_settles_70 : decode cL_settles 70 = .ok (.ifCond .eq 54, 3) := by decide +kernel
theorem dL_settles_73 : decode cL_settles 73 = .ok (.iload 9, 2) := by decide +kernel
theorem dL_settles_75 : decode cL_settles 75 = .ok (.bipush 30, 2) := by decide +kernel
theorem dL_settles_77 : decode cL_settles 77 = .ok (.if_icmp .lt 43, 3) := by decide +kernel
theorem dL_settles_80 : decode cL_settles 80 = .ok (.aload_n 0, 1) := by decide +kernel
theorem dL_settles_81 : decode cL_settles 81 = .ok (.iload 6, 2) := by decide +kernel
theorem dL_settles_83 : decode cL_settles 83 = .ok (.invokestatic 120, 3) := by decide +kernel
theorem dL_settles_86 : decode cL_settles 86 = .ok (.iload 7, 2) := by decide +kernel
theorem dL_settles_88 : decode cL_settles 88 = .ok (.iload 9, 2) := by decide +kernel
theorem dL_settles_90 : decode cL_settles 90 = .ok (.isub, 1) := by decide +kernel
theorem dL_settles_91 : decode cL_settles 91 = .ok (.if_icmp .ne 29, 3) := by decide +kernel
theorem dL_settles_94 : decode cL_settles 94 = .ok (.aload_n 0, 1) := by decide +kernel
theorem dL_settles_95 : decode cL_settles 95 = .ok (.iload 5, 2) := by decide +kernel
theorem dL_settles_97 : decode cL_settles 97 = .ok (.iconst 5, 1) := by decide +kernel
theorem dL_settles_98 : decode cL_settles 98 = .ok (.invokestatic 118, 3) := by decide +kernel
theorem dL_settles_101 : decode cL_settles 101 = .ok (.iconst 1, 1) := by decide +kernel
theorem dL_settles_102 : decode cL_settles 102 = .ok (.if_icmp .ne 18, 3) := by decide +kernel
theorem dL_settles_105 : decode cL_settles 105 = .ok (.aload_n 0, 1) := by decide +kernel
theorem dL_settles_106 : decode cL_settles 106 = .ok (.iload 5, 2) := by decide +kernel
theorem dL_settles_108 : decode cL_settles 108 = .ok (.invokestatic 149, 3) := by decide +kernel
theorem dL_settles_111 : decode cL_settles 111 = .ok (.ldc 36, 2) := by decide +kernel
theorem dL_settles_113 : decode cL_settles 113 = .ok (.if_icmp .ne 7, 3) := by decide +kernel
theorem dL_settles_116 : decode cL_settles 116 = .ok (.iconst 1, 1) := by decide +kernel
theorem dL_settles_117 : decode cL_settles 117 = .ok (.goto 19, 3) := by decide +kernel
theorem dL_settles_120 : decode cL_settles 120 = .ok (.iconst 0, 1) := by decide +kernel
theorem dL_settles_121 : decode cL_settles 121 = .ok (.goto 15, 3) := by decide +kernel
theorem dL_settles_124 : decode cL_settles 124 = .ok (.iload 9, 2) := by decide +kernel
theorem dL_settles_126 : decode cL_settles 126 = .ok (.ldc 36, 2) := by decide +kernel
theorem dL_settles_128 : decode cL_settles 128 = .ok (.if_icmp .ne 7, 3) := by decide +kernel
theorem dL_settles_131 : decode cL_settles 131 = .ok (.iconst 1, 1) := by decide +kernel
theorem dL_settles_132 : decode cL_settles 132 = .ok (.goto 4, 3) := by decide +kernel
theorem dL_settles_135 : decode cL_settles 135 = .ok (.iconst 0, 1) := by decide +kernel
theorem dL_settles_136 : decode cL_settles 136 = .ok (.ireturn, 1) := by decide +kernel
theorem dL_settles_137 : decode cL_settles 137 = .ok (.iload 4, 2) := by decide +kernel
theorem dL_settles_139 : decode cL_settles 139 = .ok (.iconst 3, 1) := by decide +kernel
theorem dL_settles_140 : decode cL_settles 140 = .ok (.invokestatic 104, 3) := by decide +kernel
theorem dL_settles_143 : decode cL_settles 143 = .ok (.iconst 1, 1) := by decide +kernel
theorem dL_settles_144 : decode cL_settles 144 = .ok (.if_icmp .ne 84, 3) := by decide +kernel
theorem dL_settles_147 : decode cL_settles 147 = .ok (.aload_n 0, 1) := by decide +kernel
theorem dL_settles_148 : decode cL_settles 148 = .ok (.iload 6, 2) := by decide +kernel
theorem dL_settles_150 : decode cL_settles 150 = .ok (.invokestatic 151, 3) := by decide +kernel
theorem dL_settles_153 : decode cL_settles 153 = .ok (.istore 9, 2) := by decide +kernel
theorem dL_settles_155 : decode cL_settles 155 = .ok (.aload_n 2, 1) := by decide +kernel
theorem dL_settles_156 : decode cL_settles 156 = .ok (.iload 6, 2) := by decide +kernel
theorem dL_settles_158 : decode cL_settles 158 = .ok (.iaload, 1) := by decide +kernel
theorem dL_settles_159 : decode cL_settles 159 = .ok (.ifCond .lt 15, 3) := by decide +kernel
theorem dL_settles_162 : decode cL_settles 162 = .ok (.iload 7, 2) := by decide +kernel
theorem dL_settles_164 : decode cL_settles 164 = .ok (.sipush 200, 3) := by decide +kernel
theorem dL_settles_167 : decode cL_settles 167 = .ok (.if_icmp .lt 7, 3) := by decide +kernel
theorem dL_settles_170 : decode cL_settles 170 = .ok (.iconst 1, 1) := by decide +kernel
theorem dL_settles_171 : decode cL_settles 171 = .ok (.goto 4, 3) := by decide +kernel
theorem dL_settles_174 : decode cL_settles 174 = .ok (.iconst 0, 1) := by decide +kernel
theorem dL_settles_175 : decode cL_settles 175 = .ok (.istore 10, 2) := by decide +kernel
theorem dL_settles_177 : decode cL_settles 177 = .ok (.aload_n 2, 1) := by decide +kernel
theorem dL_settles_178 : decode cL_settles 178 = .ok (.iload 6, 2) := by decide +kernel
theorem dL_settles_180 : decode cL_settles 180 = .ok (.iload 10, 2) := by decide +kernel
theorem dL_settles_182 : decode cL_settles 182 = .ok (.ifCond .eq 7, 3) := by decide +kernel
theorem dL_settles_185 : decode cL_settles 185 = .ok (.iconst (-1), 1) := by decide +kernel
theorem dL_settles_186 : decode cL_settles 186 = .ok (.goto 7, 3) := by decide +kernel
theorem dL_settles_189 : decode cL_settles 189 = .ok (.aload_n 2, 1) := by decide +kernel
theorem dL_settles_190 : decode cL_settles 190 = .ok (.iload 6, 2) := by decide +kernel
theorem dL_settles_192 : decode cL_settles 192 = .ok (.iaload, 1) := by decide +kernel
theorem dL_settles_193 : decode cL_settles 193 = .ok (.iastore, 1) := by decide +kernel
theorem dL_settles_194 : decode cL_settles 194 = .ok (.iload 9, 2) := by decide +kernel
theorem dL_settles_196 : decode cL_settles 196 = .ok (.iload 10, 2) := by decide +kernel
theorem dL_settles_198 : decode cL_settles 198 = .ok (.ifCond .eq 8, 3) := by decide +kernel
theorem dL_settles_201 : decode cL_settles 201 = .ok (.iload 7, 2) := by decide +kernel
theorem dL_settles_203 : decode cL_settles 203 = .ok (.goto 5, 3) := by decide +kernel
theorem dL_settles_206 : decode cL_settles 206 = .ok (.ldc 36, 2) := by decide +kernel
theorem dL_settles_208 : decode cL_settles 208 = .ok (.if_icmp .ne 18, 3) := by decide +kernel
theorem dL_settles_211 : decode cL_settles 211 = .ok (.aload_n 0, 1) := by decide +kernel
theorem dL_settles_212 : decode cL_settles 212 = .ok (.iload 6, 2) := by decide +kernel
theorem dL_settles_214 : decode cL_settles 214 = .ok (.invokestatic 120, 3) := by decide +kernel
theorem dL_settles_217 : decode cL_settles 217 = .ok (.iload 7, 2) := by decide +kernel
theorem dL_settles_219 : decode cL_settles 219 = .ok (.if_icmp .ne 7, 3) := by decide +kernel
theorem dL_settles_222 : decode cL_settles 222 = .ok (.iconst 1, 1) := by decide +kernel
theorem dL_settles_223 : decode cL_settles 223 = .ok (.goto 4, 3) := by decide +kernel
theorem dL_settles_226 : decode cL_settles 226 = .ok (.iconst 0, 1) := by decide +kernel
theorem dL_settles_227 : decode cL_settles 227 = .ok (.ireturn, 1) := by decide +kernel
theorem dL_settles_228 : decode cL_settles 228 = .ok (.aload_n 0, 1) := by decide +kernel
theorem dL_settles_229 : decode cL_settles 229 = .ok (.iload 5, 2) := by decide +kernel
theorem dL_settles_231 : decode cL_settles 231 = .ok (.invokestatic 149, 3) := by decide +kernel
theorem dL_settles_234 : decode cL_settles 234 = .ok (.istore 9, 2) := by decide +kernel
theorem dL_settles_236 : decode cL_settles 236 = .ok (.iload 9, 2) := by decide +kernel
theorem dL_settles_238 : decode cL_settles 238 = .ok (.ldc 36, 2) := by decide +kernel
theorem dL_settles_240 : decode cL_settles 240 = .ok (.if_icmp .ne 33, 3) := by decide +kernel
theorem dL_settles_243 : decode cL_settles 243 = .ok (.aload_n 0, 1) := by decide +kernel
theorem dL_settles_244 : decode cL_settles 244 = .ok (.iload 5, 2) := by decide +kernel
theorem dL_settles_246 : decode cL_settles 246 = .ok (.iconst 5, 1) := by decide +kernel
theorem dL_settles_247 : decode cL_settles 247 = .ok (.invokestatic 118, 3) := by decide +kernel
theorem dL_settles_250 : decode cL_settles 250 = .ok (.iconst 1, 1) := by decide +kernel
theorem dL_settles_251 : decode cL_settles 251 = .ok (.if_icmp .eq 14, 3) := by decide +kernel
theorem dL_settles_254 : decode cL_settles 254 = .ok (.aload_n 0, 1) := by decide +kernel
theorem dL_settles_255 : decode cL_settles 255 = .ok (.iload 5, 2) := by decide +kernel
theorem dL_settles_257 : decode cL_settles 257 = .ok (.invokestatic 149, 3) := by decide +kernel
theorem dL_settles_260 : decode cL_settles 260 = .ok (.ldc 36, 2) := by decide +kernel
theorem dL_settles_262 : decode cL_settles 262 = .ok (.if_icmp .ne 7, 3) := by decide +kernel
theorem dL_settles_265 : decode cL_settles 265 = .ok (.iconst 1, 1) := by decide +kernel
theorem dL_settles_266 : decode cL_settles 266 = .ok (.goto 63, 3) := by decide +kernel
theorem dL_settles_269 : decode cL_settles 269 = .ok (.iconst 0, 1) := by decide +kernel
theorem dL_settles_270 : decode cL_settles 270 = .ok (.goto 59, 3) := by decide +kernel
theorem dL_settles_273 : decode cL_settles 273 = .ok (.aload_n 0, 1) := by decide +kernel
theorem dL_settles_274 : decode cL_settles 274 = .ok (.iload 5, 2) := by decide +kernel
theorem dL_settles_276 : decode cL_settles 276 = .ok (.iconst 4, 1) := by decide +kernel
theorem dL_settles_277 : decode cL_settles 277 = .ok (.invokestatic 118, 3) := by decide +kernel
theorem dL_settles_280 : decode cL_settles 280 = .ok (.iload 9, 2) := by decide +kernel
theorem dL_settles_282 : decode cL_settles 282 = .ok (.if_icmp .ne 46, 3) := by decide +kernel
theorem dL_settles_285 : decode cL_settles 285 = .ok (.aload_n 0, 1) := by decide +kernel
theorem dL_settles_286 : decode cL_settles 286 = .ok (.iload 6, 2) := by decide +kernel
theorem dL_settles_288 : decode cL_settles 288 = .ok (.invokestatic 120, 3) := by decide +kernel
theorem dL_settles_291 : decode cL_settles 291 = .ok (.iload 7, 2) := by decide +kernel
theorem dL_settles_293 : decode cL_settles 293 = .ok (.if_icmp .gt 35, 3) := by decide +kernel
theorem dL_settles_296 : decode cL_settles 296 = .ok (.iload 9, 2) := by decide +kernel
theorem dL_settles_298 : decode cL_settles 298 = .ok (.iconst 1, 1) := by decide +kernel
theorem dL_settles_299 : decode cL_settles 299 = .ok (.if_icmp .eq 14, 3) := by decide +kernel
theorem dL_settles_302 : decode cL_settles 302 = .ok (.aload_n 0, 1) := by decide +kernel
theorem dL_settles_303 : decode cL_settles 303 = .ok (.iload 6, 2) := by decide +kernel
theorem dL_settles_305 : decode cL_settles 305 = .ok (.invokestatic 120, 3) := by decide +kernel
theorem dL_settles_308 : decode cL_settles 308 = .ok (.iload 7, 2) := by decide +kernel
theorem dL_settles_310 : decode cL_settles 310 = .ok (.if_icmp .ne 18, 3) := by decide +kernel
theorem dL_settles_313 : decode cL_settles 313 = .ok (.aload_n 0, 1) := by decide +kernel
theorem dL_settles_314 : decode cL_settles 314 = .ok (.iload 5, 2) := by decide +kernel
theorem dL_settles_316 : decode cL_settles 316 = .ok (.invokestatic 149, 3) := by decide +kernel
theorem dL_settles_319 : decode cL_settles 319 = .ok (.ldc 36, 2) := by decide +kernel
theorem dL_settles_321 : decode cL_settles 321 = .ok (.if_icmp .ne 7, 3) := by decide +kernel
theorem dL_settles_324 : decode cL_settles 324 = .ok (.iconst 1, 1) := by decide +kernel
theorem dL_settles_325 : decode cL_settles 325 = .ok (.goto 4, 3) := by decide +kernel
theorem dL_settles_328 : decode cL_settles 328 = .ok (.iconst 0, 1) := by decide +kernel
theorem dL_settles_329 : decode cL_settles 329 = .ok (.ireturn, 1) := by decide +kernel
theorem dL_acts_0 : decode cL_acts 0 = .ok (.iload 5, 2) := by decide +kernel
theorem dL_acts_2 : decode cL_acts 2 = .ok (.bipush 16, 2) := by decide +kernel
theorem dL_acts_4 : decode cL_acts 4 = .ok (.invokestatic 104, 3) := by decide +kernel
theorem dL_acts_7 : decode cL_acts 7 = .ok (.istore 7, 2) := by decide +kernel
theorem dL_acts_9 : decode cL_acts 9 = .ok (.iload 7, 2) := by decide +kernel
theorem dL_acts_11 : decode cL_acts 11 = .ok (.iconst 3, 1) := by decide +kernel
theorem dL_acts_12 : decode cL_acts 12 = .ok (.if_icmp .lt 9, 3) := by decide +kernel
theorem dL_acts_15 : decode cL_acts 15 = .ok (.aload_n 1, 1) := by decide +kernel
theorem dL_acts_16 : decode cL_acts 16 = .ok (.iconst 2, 1) := by decide +kernel
theorem dL_acts_17 : decode cL_acts 17 = .ok (.iaload, 1) := by decide +kernel
theorem dL_acts_18 : decode cL_acts 18 = .ok (.ifCond .ne 17, 3) := by decide +kernel
theorem dL_acts_21 : decode cL_acts 21 = .ok (.aload_n 0, 1) := by decide +kernel
theorem dL_acts_22 : decode cL_acts 22 = .ok (.aload_n 1, 1) := by decide +kernel
theorem dL_acts_23 : decode cL_acts 23 = .ok (.aload_n 2, 1) := by decide +kernel
theorem dL_acts_24 : decode cL_acts 24 = .ok (.aload_n 3, 1) := by decide +kernel
theorem dL_acts_25 : decode cL_acts 25 = .ok (.iload 5, 2) := by decide +kernel
theorem dL_acts_27 : decode cL_acts 27 = .ok (.iconst 4, 1) := by decide +kernel
theorem dL_acts_28 : decode cL_acts 28 = .ok (.ishr, 1) := by decide +kernel
theorem dL_acts_29 : decode cL_acts 29 = .ok (.iload 6, 2) := by decide +kernel
theorem dL_acts_31 : decode cL_acts 31 = .ok (.invokestatic 153, 3) := by decide +kernel
theorem dL_acts_34 : decode cL_acts 34 = .ok (.ireturn, 1) := by decide +kernel
theorem dL_acts_35 : decode cL_acts 35 = .ok (.iload 7, 2) := by decide +kernel
theorem dL_acts_37 : decode cL_acts 37 = .ok (.bipush 7, 2) := by decide +kernel
theorem dL_acts_39 : decode cL_acts 39 = .ok (.if_icmp .ge 18, 3) := by decide +kernel
theorem dL_acts_42 : decode cL_acts 42 = .ok (.aload_n 0, 1) := by decide +kernel
theorem dL_acts_43 : decode cL_acts 43 = .ok (.aload_n 1, 1) := by decide +kernel
theorem dL_acts_44 : decode cL_acts 44 = .ok (.aload_n 2, 1) := by decide +kernel
theorem dL_acts_45 : decode cL_acts 45 = .ok (.aload 4, 2) := by decide +kernel
theorem dL_acts_47 : decode cL_acts 47 = .ok (.iload 5, 2) := by decide +kernel
theorem dL_acts_49 : decode cL_acts 49 = .ok (.iconst 4, 1) := by decide +kernel
theorem dL_acts_50 : decode cL_acts 50 = .ok (.ishr, 1) := by decide +kernel
theorem dL_acts_51 : decode cL_acts 51 = .ok (.iload 6, 2) := by decide +kernel
theorem dL_acts_53 : decode cL_acts 53 = .ok (.invokestatic 157, 3) := by decide +kernel
theorem dL_acts_56 : decode cL_acts 56 = .ok (.ireturn, 1) := by decide +kernel
theorem dL_acts_57 : decode cL_acts 57 = .ok (.iload 7, 2) := by decide +kernel
theorem dL_acts_59 : decode cL_acts 59 = .ok (.bipush 7, 2) := by decide +kernel
theorem dL_acts_61 : decode cL_acts 61 = .ok (.if_icmp .ne 15, 3) := by decide +kernel
theorem dL_acts_64 : decode cL_acts 64 = .ok (.aload_n 0, 1) := by decide +kernel
theorem dL_acts_65 : decode cL_acts 65 = .ok (.aload_n 1, 1) := by decide +kernel
theorem dL_acts_66 : decode cL_acts 66 = .ok (.iload 5, 2) := by decide +kernel
theorem dL_acts_68 : decode cL_acts 68 = .ok (.iconst 4, 1) := by decide +kernel
theorem dL_acts_69 : decode cL_acts 69 = .ok (.ishr, 1) := by decide +kernel
theorem dL_acts_70 : decode cL_acts 70 = .ok (.iload 6, 2) := by decide +kernel
theorem dL_acts_72 : decode cL_acts 72 = .ok (.invokestatic 160, 3) := by decide +kernel
theorem dL_acts_75 : decode cL_acts 75 = .ok (.ireturn, 1) := by decide +kernel
theorem dL_acts_76 : decode cL_acts 76 = .ok (.iload 7, 2) := by decide +kernel
theorem dL_acts_78 : decode cL_acts 78 = .ok (.bipush 10, 2) := by decide +kernel
theorem dL_acts_80 : decode cL_acts 80 = .ok (.if_icmp .ge 13, 3) := by decide +kernel
theorem dL_acts_83 : decode cL_acts 83 = .ok (.aload_n 0, 1) := by decide +kernel
theorem dL_acts_84 : decode cL_acts 84 = .ok (.aload_n 1, 1) := by decide +kernel
theorem dL_acts_85 : decode cL_acts 85 = .ok (.aload 4, 2) := by decide +kernel
theorem dL_acts_87 : decode cL_acts 87 = .ok (.iload 6, 2) := by decide +kernel
theorem dL_acts_89 : decode cL_acts 89 = .ok (.invokestatic 164, 3) := by decide +kernel
theorem dL_acts_92 : decode cL_acts 92 = .ok (.ireturn, 1) := by decide +kernel
theorem dL_acts_93 : decode cL_acts 93 = .ok (.iload 7, 2) := by decide +kernel
theorem dL_acts_95 : decode cL_acts 95 = .ok (.bipush 10, 2) := by decide +kernel
theorem dL_acts_97 : decode cL_acts 97 = .ok (.if_icmp .ne 23, 3) := by decide +kernel
theorem dL_acts_100 : decode cL_acts 100 = .ok (.aload_n 1, 1) := by decide +kernel
theorem dL_acts_101 : decode cL_acts 101 = .ok (.iconst 5, 1) := by decide +kernel
theorem dL_acts_102 : decode cL_acts 102 = .ok (.iaload, 1) := by decide +kernel
theorem dL_acts_103 : decode cL_acts 103 = .ok (.ifCond .le 17, 3) := by decide +kernel
theorem dL_acts_106 : decode cL_acts 106 = .ok (.aload_n 0, 1) := by decide +kernel
theorem dL_acts_107 : decode cL_acts 107 = .ok (.aload_n 1, 1) := by decide +kernel
theorem dL_acts_108 : decode cL_acts 108 = .ok (.aload 4, 2) := by decide +kernel
theorem dL_acts_110 : decode cL_acts 110 = .ok (.iload 5, 2) := by decide +kernel
theorem dL_acts_112 : decode cL_acts 112 = .ok (.iconst 4, 1) := by decide +kernel
theorem dL_acts_113 : decode cL_acts 113 = .ok (.ishr, 1) := by decide +kernel
theorem dL_acts_114 : decode cL_acts 114 = .ok (.iload 6, 2) := by decide +kernel
theorem dL_acts_116 : decode cL_acts 116 = .ok (.invokestatic 168, 3) := by decide +kernel
theorem dL_acts_119 : decode cL_acts 119 = .ok (.ireturn, 1) := by decide +kernel
theorem dL_acts_120 : decode cL_acts 120 = .ok (.iload 7, 2) := by decide +kernel
theorem dL_acts_122 : decode cL_acts 122 = .ok (.bipush 11, 2) := by decide +kernel
theorem dL_acts_124 : decode cL_acts 124 = .ok (.if_icmp .ne 128, 3) := by decide +kernel
theorem dL_acts_127 : decode cL_acts 127 = .ok (.iload 6, 2) := by decide +kernel
theorem dL_acts_129 : decode cL_acts 129 = .ok (.aload_n 1, 1) := by decide +kernel
theorem dL_acts_130 : decode cL_acts 130 = .ok (.iconst 2, 1) := by decide +kernel
theorem dL_acts_131 : decode cL_acts 131 = .ok (.iaload, 1) := by decide +kernel
theorem dL_acts_132 : decode cL_acts 132 = .ok (.invokestatic 104, 3) := by decide +kernel
theorem dL_acts_135 : decode cL_acts 135 = .ok (.istore 8, 2) := by decide +kernel
theorem dL_acts_137 : decode cL_acts 137 = .ok (.iload 6, 2) := by decide +kernel
theorem dL_acts_139 : decode cL_acts 139 = .ok (.iconst 5, 1) := by decide +kernel
theorem dL_acts_140 : decode cL_acts 140 = .ok (.ishr, 1) := by decide +kernel
theorem dL_acts_141 : decode cL_acts 141 = .ok (.iconst 4, 1) := by decide +kernel
theorem dL_acts_142 : decode cL_acts 142 = .ok (.invokestatic 104, 3) := by decide +kernel
theorem dL_acts_145 : decode cL_acts 145 = .ok (.istore 9, 2) := by decide +kernel
theorem dL_acts_147 : decode cL_acts 147 = .ok (.aload_n 1, 1) := by decide +kernel
theorem dL_acts_148 : decode cL_acts 148 = .ok (.iconst 0, 1) := by decide +kernel
theorem dL_acts_149 : decode cL_acts 149 = .ok (.iaload, 1) := by decide +kernel
theorem dL_acts_150 : decode cL_acts 150 = .ok (.bipush 96, 2) := by decide +kernel
theorem dL_acts_152 : decode cL_acts 152 = .ok (.idiv, 1) := by decide +kernel
theorem dL_acts_153 : decode cL_acts 153 = .ok (.istore 10, 2) := by decide +kernel
theorem dL_acts_155 : decode cL_acts 155 = .ok (.aload_n 0, 1) := by decide +kernel
theorem dL_acts_156 : decode cL_acts 156 = .ok (.iload 8, 2) := by decide +kernel
theorem dL_acts_158 : decode cL_acts 158 = .ok (.iload 9, 2) := by decide +kernel
theorem dL_acts_160 : decode cL_acts 160 = .ok (.iload 6, 2) := by decide +kernel
theorem dL_acts_162 : decode cL_acts 162 = .ok (.bipush 7, 2) := by decide +kernel
theorem dL_acts_164 : decode cL_acts 164 = .ok (.ishr, 1) := by decide +kernel
theorem dL_acts_165 : decode cL_acts 165 = .ok (.bipush 10, 2) := by decide +kernel
theorem dL_acts_167 : decode cL_acts 167 = .ok (.invokestatic 104, 3) := by decide +kernel
theorem dL_acts_170 : decode cL_acts 170 = .ok (.iload 10, 2) := by decide +kernel
theorem dL_acts_172 : decode cL_acts 172 = .ok (.iload 10, 2) := by decide +kernel
theorem dL_acts_174 : decode cL_acts 174 = .ok (.iload 6, 2) := by decide +kernel
theorem dL_acts_176 : decode cL_acts 176 = .ok (.bipush 11, 2) := by decide +kernel
theorem dL_acts_178 : decode cL_acts 178 = .ok (.ishr, 1) := by decide +kernel
theorem dL_acts_179 : decode cL_acts 179 = .ok (.bipush 9, 2) := by decide +kernel
theorem dL_acts_181 : decode cL_acts 181 = .ok (.invokestatic 104, 3) := by decide +kernel
theorem dL_acts_184 : decode cL_acts 184 = .ok (.iadd, 1) := by decide +kernel
theorem dL_acts_185 : decode cL_acts 185 = .ok (.invokestatic 172, 3) := by decide +kernel
theorem dL_acts_188 : decode cL_acts 188 = .ok (.istore 11, 2) := by decide +kernel
theorem dL_acts_190 : decode cL_acts 190 = .ok (.aload_n 1, 1) := by decide +kernel
theorem dL_acts_191 : decode cL_acts 191 = .ok (.iconst 3, 1) := by decide +kernel
theorem dL_acts_192 : decode cL_acts 192 = .ok (.dup2, 1) := by decide +kernel
theorem dL_acts_193 : decode cL_acts 193 = .ok (.iaload, 1) := by decide +kernel
theorem dL_acts_194 : decode cL_acts 194 = .ok (.iload 11, 2) := by decide +kernel
theorem dL_acts_196 : decode cL_acts 196 = .ok (.ifCond .lt 7, 3) := by decide +kernel
theorem dL_acts_199 : decode cL_acts 199 = .ok (.iconst 1, 1) := by decide +kernel
theorem dL_acts_200 : decode cL_acts 200 = .ok (.goto 4, 3) := by decide +kernel
theorem dL_acts_203 : decode cL_acts 203 = .ok (.iconst 0, 1) := by decide +kernel
theorem dL_acts_204 : decode cL_acts 204 = .ok (.iadd, 1) := by decide +kernel
theorem dL_acts_205 : decode cL_acts 205 = .ok (.iastore, 1) := by decide +kernel
theorem dL_acts_206 : decode cL_acts 206 = .ok (.iload 11, 2) := by decide +kernel
theorem dL_acts_208 : decode cL_acts 208 = .ok (.aload_n 1, 1) := by decide +kernel
theorem dL_acts_209 : decode cL_acts 209 = .ok (.iconst 3, 1) := by decide +kernel
theorem dL_acts_210 : decode cL_acts 210 = .ok (.iaload, 1) := by decide +kernel
theorem dL_acts_211 : decode cL_acts 211 = .ok (.iconst 1, 1) := by decide +kernel
theorem dL_acts_212 : decode cL_acts 212 = .ok (.isub, 1) := by decide +kernel
theorem dL_acts_213 : decode cL_acts 213 = .ok (.if_icmp .ne 26, 3) := by decide +kernel
theorem dL_acts_216 : decode cL_acts 216 = .ok (.aload_n 0, 1) := by decide +kernel
theorem dL_acts_217 : decode cL_acts 217 = .ok (.iload 8, 2) := by decide +kernel
theorem dL_acts_219 : decode cL_acts 219 = .ok (.iload 9, 2) := by decide +kernel
theorem dL_acts_221 : decode cL_acts 221 = .ok (.invokestatic 127, 3) := by decide +kernel
theorem dL_acts_224 : decode cL_acts 224 = .ok (.aload_n 3, 1) := by decide +kernel
theorem dL_acts_225 : decode cL_acts 225 = .ok (.iload 8, 2) := by decide +kernel
theorem dL_acts_227 : decode cL_acts 227 = .ok (.iaload, 1) := by decide +kernel
theorem dL_acts_228 : decode cL_acts 228 = .ok (.if_icmp .ne 7, 3) := by decide +kernel
theorem dL_acts_231 : decode cL_acts 231 = .ok (.iconst 1, 1) := by decide +kernel
theorem dL_acts_232 : decode cL_acts 232 = .ok (.goto 19, 3) := by decide +kernel
theorem dL_acts_235 : decode cL_acts 235 = .ok (.iconst 0, 1) := by decide +kernel
theorem dL_acts_236 : decode cL_acts 236 = .ok (.goto 15, 3) := by decide +kernel
theorem dL_acts_239 : decode cL_acts 239 = .ok (.iload 11, 2) := by decide +kernel
theorem dL_acts_241 : decode cL_acts 241 = .ok (.ldc 36, 2) := by decide +kernel
theorem dL_acts_243 : decode cL_acts 243 = .ok (.if_icmp .ne 7, 3) := by decide +kernel
theorem dL_acts_246 : decode cL_acts 246 = .ok (.iconst 1, 1) := by decide +kernel
theorem dL_acts_247 : decode cL_acts 247 = .ok (.goto 4, 3) := by decide +kernel
theorem dL_acts_250 : decode cL_acts 250 = .ok (.iconst 0, 1) := by decide +kernel
theorem dL_acts_251 : decode cL_acts 251 = .ok (.ireturn, 1) := by decide +kernel
theorem dL_acts_252 : decode cL_acts 252 = .ok (.iload 7, 2) := by decide +kernel
theorem dL_acts_254 : decode cL_acts 254 = .ok (.bipush 12, 2) := by decide +kernel
theorem dL_acts_256 : decode cL_acts 256 = .ok (.if_icmp .ne 85, 3) := by decide +kernel
theorem dL_acts_259 : decode cL_acts 259 = .ok (.iload 5, 2) := by decide +kernel
theorem dL_acts_261 : decode cL_acts 261 = .ok (.iconst 4, 1) := by decide +kernel
theorem dL_acts_262 : decode cL_acts 262 = .ok (.ishr, 1) := by decide +kernel
theorem dL_acts_263 : decode cL_acts 263 = .ok (.iconst 1, 1) := by decide +kernel
theorem dL_acts_264 : decode cL_acts 264 = .ok (.iand, 1) := by decide +kernel
theorem dL_acts_265 : decode cL_acts 265 = .ok (.iconst 1, 1) := by decide +kernel
theorem dL_acts_266 : decode cL_acts 266 = .ok (.if_icmp .ne 7, 3) := by decide +kernel
theorem dL_acts_269 : decode cL_acts 269 = .ok (.iconst 1, 1) := by decide +kernel
theorem dL_acts_270 : decode cL_acts 270 = .ok (.goto 4, 3) := by decide +kernel
theorem dL_acts_273 : decode cL_acts 273 = .ok (.iconst 0, 1) := by decide +kernel
theorem dL_acts_274 : decode cL_acts 274 = .ok (.istore 8, 2) := by decide +kernel
theorem dL_acts_276 : decode cL_acts 276 = .ok (.iload 6, 2) := by decide +kernel
theorem dL_acts_278 : decode cL_acts 278 = .ok (.iconst 2, 1) := by decide +kernel
theorem dL_acts_279 : decode cL_acts 279 = .ok (.ishr, 1) := by decide +kernel
theorem dL_acts_280 : decode cL_acts 280 = .ok (.bipush 60, 2) := by decide +kernel
theorem dL_acts_282 : decode cL_acts 282 = .ok (.invokestatic 104, 3) := by decide +kernel
theorem dL_acts_285 : decode cL_acts 285 = .ok (.istore 9, 2) := by decide +kernel
theorem dL_acts_287 : decode cL_acts 287 = .ok (.aload_n 0, 1) := by decide +kernel
theorem dL_acts_288 : decode cL_acts 288 = .ok (.iload 6, 2) := by decide +kernel
theorem dL_acts_290 : decode cL_acts 290 = .ok (.iconst 4, 1) := by decide +kernel
theorem dL_acts_291 : decode cL_acts 291 = .ok (.invokestatic 104, 3) := by decide +kernel
theorem dL_acts_294 : decode cL_acts 294 = .ok (.iload 9, 2) := by decide +kernel
theorem dL_acts_296 : decode cL_acts 296 = .ok (.iload 8, 2) := by decide +kernel
theorem dL_acts_298 : decode cL_acts 298 = .ok (.invokestatic 175, 3) := by decide +kernel
theorem dL_acts_301 : decode cL_acts 301 = .ok (.istore 10, 2) := by decide +kernel
theorem dL_acts_303 : decode cL_acts 303 = .ok (.iload 10, 2) := by decide +kernel
theorem dL_acts_305 : decode cL_acts 305 = .ok (.ifCond .lt 34, 3) := by decide +kernel
theorem dL_acts_308 : decode cL_acts 308 = .ok (.aload_n 0, 1) := by decide +kernel
theorem dL_acts_309 : decode cL_acts 309 = .ok (.iload 6, 2) := by decide +kernel
theorem dL_acts_311 : decode cL_acts 311 = .ok (.iconst 4, 1) := by decide +kernel
theorem dL_acts_312 : decode cL_acts 312 = .ok (.invokestatic 104, 3) := by decide +kernel
theorem dL_acts_315 : decode cL_acts 315 = .ok (.iload 9, 2) := by decide +kernel
theorem dL_acts_317 : decode cL_acts 317 = .ok (.iload 8, 2) := by decide +kernel
theorem dL_acts_319 : decode cL_acts 319 = .ok (.invokestatic 175, 3) := by decide +kernel
theorem dL_acts_322 : decode cL_acts 322 = .ok (.iload 8, 2) := by decide +kernel
theorem dL_acts_324 : decode cL_acts 324 = .ok (.ifCond .eq 7, 3) := by decide +kernel
theorem dL_acts_327 : decode cL_acts 327 = .ok (.iconst 1, 1) := by decide +kernel
theorem dL_acts_328 : decode cL_acts 328 = .ok (.goto 4, 3) := by decide +kernel
theorem dL_acts_331 : decode cL_acts 331 = .ok (.iconst 0, 1) := by decide +kernel
theorem dL_acts_332 : decode cL_acts 332 = .ok (.if_icmp .ne 7, 3) := by decide +kernel
theorem dL_acts_335 : decode cL_acts 335 = .ok (.iconst 1, 1) := by decide +kernel
theorem dL_acts_336 : decode cL_acts 336 = .ok (.goto 4, 3) := by decide +kernel
theorem dL_acts_339 : decode cL_acts 339 = .ok (.iconst 0, 1) := by decide +kernel
theorem dL_acts_340 : decode cL_acts 340 = .ok (.ireturn, 1) := by decide +kernel
theorem dL_acts_341 : decode cL_acts 341 = .ok (.iload 7, 2) := by decide +kernel
theorem dL_acts_343 : decode cL_acts 343 = .ok (.bipush 13, 2) := by decide +kernel
