theorem dL_water_513 : decode cL_water 513 = .ok (.invokevirtual 9, 3) := by decide +kernel
theorem dL_water_516 : decode cL_water 516 = .ok (.iload 7, 2) := by decide +kernel
theorem dL_water_518 : decode cL_water 518 = .ok (.iadd, 1) := by decide +kernel
theorem dL_water_519 : decode cL_water 519 = .ok (.iload 4, 2) := by decide +kernel
theorem dL_water_521 : decode cL_water 521 = .ok (.iadd, 1) := by decide +kernel
theorem dL_water_522 : decode cL_water 522 = .ok (.iload 5, 2) := by decide +kernel
theorem dL_water_524 : decode cL_water 524 = .ok (.iload_n 3, 1) := by decide +kernel
theorem dL_water_525 : decode cL_water 525 = .ok (.iadd, 1) := by decide +kernel
theorem dL_water_526 : decode cL_water 526 = .ok (.iload 6, 2) := by decide +kernel
theorem dL_water_528 : decode cL_water 528 = .ok (.iadd, 1) := by decide +kernel
theorem dL_water_529 : decode cL_water 529 = .ok (.iload_n 1, 1) := by decide +kernel
theorem dL_water_530 : decode cL_water 530 = .ok (.iadd, 1) := by decide +kernel
theorem dL_water_531 : decode cL_water 531 = .ok (.if_icmp .ne 51, 3) := by decide +kernel
theorem dL_water_534 : decode cL_water 534 = .ok (.aload_n 0, 1) := by decide +kernel
theorem dL_water_535 : decode cL_water 535 = .ok (.iconst 1, 1) := by decide +kernel
theorem dL_water_536 : decode cL_water 536 = .ok (.invokevirtual 24, 3) := by decide +kernel
theorem dL_water_539 : decode cL_water 539 = .ok (.aload_n 0, 1) := by decide +kernel
theorem dL_water_540 : decode cL_water 540 = .ok (.iconst 2, 1) := by decide +kernel
theorem dL_water_541 : decode cL_water 541 = .ok (.invokevirtual 24, 3) := by decide +kernel
theorem dL_water_544 : decode cL_water 544 = .ok (.iand, 1) := by decide +kernel
theorem dL_water_545 : decode cL_water 545 = .ok (.ifCond .ne 37, 3) := by decide +kernel
theorem dL_water_548 : decode cL_water 548 = .ok (.aload_n 0, 1) := by decide +kernel
theorem dL_water_549 : decode cL_water 549 = .ok (.bipush 6, 2) := by decide +kernel
theorem dL_water_551 : decode cL_water 551 = .ok (.invokevirtual 21, 3) := by decide +kernel
theorem dL_water_554 : decode cL_water 554 = .ok (.aload_n 0, 1) := by decide +kernel
theorem dL_water_555 : decode cL_water 555 = .ok (.bipush 7, 2) := by decide +kernel
theorem dL_water_557 : decode cL_water 557 = .ok (.invokevirtual 21, 3) := by decide +kernel
theorem dL_water_560 : decode cL_water 560 = .ok (.if_icmp .gt 22, 3) := by decide +kernel
theorem dL_water_563 : decode cL_water 563 = .ok (.aload_n 0, 1) := by decide +kernel
theorem dL_water_564 : decode cL_water 564 = .ok (.bipush 8, 2) := by decide +kernel
theorem dL_water_566 : decode cL_water 566 = .ok (.invokevirtual 21, 3) := by decide +kernel
theorem dL_water_569 : decode cL_water 569 = .ok (.aload_n 0, 1) := by decide +kernel
theorem dL_water_570 : decode cL_water 570 = .ok (.bipush 10, 2) := by decide +kernel
theorem dL_water_572 : decode cL_water 572 = .ok (.invokevirtual 9, 3) := by decide +kernel
theorem dL_water_575 : decode cL_water 575 = .ok (.if_icmp .gt 7, 3) := by decide +kernel
theorem dL_water_578 : decode cL_water 578 = .ok (.iconst 1, 1) := by decide +kernel
theorem dL_water_579 : decode cL_water 579 = .ok (.goto 4, 3) := by decide +kernel
theorem dL_water_582 : decode cL_water 582 = .ok (.iconst 0, 1) := by decide +kernel
theorem dL_water_583 : decode cL_water 583 = .ok (.ireturn, 1) := by decide +kernel
theorem dL_best_0 : decode cL_best 0 = .ok (.aload_n 0, 1) := by decide +kernel
theorem dL_best_1 : decode cL_best 1 = .ok (.invokevirtual 27, 3) := by decide +kernel
theorem dL_best_4 : decode cL_best 4 = .ok (.istore_n 1, 1) := by decide +kernel
theorem dL_best_5 : decode cL_best 5 = .ok (.aload_n 0, 1) := by decide +kernel
theorem dL_best_6 : decode cL_best 6 = .ok (.invokevirtual 31, 3) := by decide +kernel
theorem dL_best_9 : decode cL_best 9 = .ok (.istore_n 2, 1) := by decide +kernel
theorem dL_best_10 : decode cL_best 10 = .ok (.aload_n 0, 1) := by decide +kernel
theorem dL_best_11 : decode cL_best 11 = .ok (.iconst 5, 1) := by decide +kernel
theorem dL_best_12 : decode cL_best 12 = .ok (.invokevirtual 21, 3) := by decide +kernel
theorem dL_best_15 : decode cL_best 15 = .ok (.iload_n 2, 1) := by decide +kernel
theorem dL_best_16 : decode cL_best 16 = .ok (.if_icmp .gt 104, 3) := by decide +kernel
theorem dL_best_19 : decode cL_best 19 = .ok (.iload_n 1, 1) := by decide +kernel
theorem dL_best_20 : decode cL_best 20 = .ok (.bipush (-6), 2) := by decide +kernel
theorem dL_best_22 : decode cL_best 22 = .ok (.if_icmp .ne 7, 3) := by decide +kernel
theorem dL_best_25 : decode cL_best 25 = .ok (.iconst 1, 1) := by decide +kernel
theorem dL_best_26 : decode cL_best 26 = .ok (.goto 4, 3) := by decide +kernel
theorem dL_best_29 : decode cL_best 29 = .ok (.iconst 0, 1) := by decide +kernel
theorem dL_best_30 : decode cL_best 30 = .ok (.iload_n 2, 1) := by decide +kernel
theorem dL_best_31 : decode cL_best 31 = .ok (.aload_n 0, 1) := by decide +kernel
theorem dL_best_32 : decode cL_best 32 = .ok (.bipush 8, 2) := by decide +kernel
theorem dL_best_34 : decode cL_best 34 = .ok (.invokevirtual 9, 3) := by decide +kernel
theorem dL_best_37 : decode cL_best 37 = .ok (.if_icmp .ge 7, 3) := by decide +kernel
theorem dL_best_40 : decode cL_best 40 = .ok (.iconst 1, 1) := by decide +kernel
theorem dL_best_41 : decode cL_best 41 = .ok (.goto 4, 3) := by decide +kernel
theorem dL_best_44 : decode cL_best 44 = .ok (.iconst 0, 1) := by decide +kernel
theorem dL_best_45 : decode cL_best 45 = .ok (.if_icmp .ne 75, 3) := by decide +kernel
theorem dL_best_48 : decode cL_best 48 = .ok (.aload_n 0, 1) := by decide +kernel
theorem dL_best_49 : decode cL_best 49 = .ok (.bipush 9, 2) := by decide +kernel
theorem dL_best_51 : decode cL_best 51 = .ok (.invokevirtual 21, 3) := by decide +kernel
theorem dL_best_54 : decode cL_best 54 = .ok (.ifCond .eq 12, 3) := by decide +kernel
theorem dL_best_57 : decode cL_best 57 = .ok (.iload_n 1, 1) := by decide +kernel
theorem dL_best_58 : decode cL_best 58 = .ok (.aload_n 0, 1) := by decide +kernel
theorem dL_best_59 : decode cL_best 59 = .ok (.iconst 0, 1) := by decide +kernel
theorem dL_best_60 : decode cL_best 60 = .ok (.invokevirtual 21, 3) := by decide +kernel
theorem dL_best_63 : decode cL_best 63 = .ok (.if_icmp .lt 57, 3) := by decide +kernel
theorem dL_best_66 : decode cL_best 66 = .ok (.iload_n 1, 1) := by decide +kernel
theorem dL_best_67 : decode cL_best 67 = .ok (.bipush (-6), 2) := by decide +kernel
theorem dL_best_69 : decode cL_best 69 = .ok (.if_icmp .ne 7, 3) := by decide +kernel
theorem dL_best_72 : decode cL_best 72 = .ok (.iconst 1, 1) := by decide +kernel
theorem dL_best_73 : decode cL_best 73 = .ok (.goto 4, 3) := by decide +kernel
theorem dL_best_76 : decode cL_best 76 = .ok (.iconst 0, 1) := by decide +kernel
theorem dL_best_77 : decode cL_best 77 = .ok (.aload_n 0, 1) := by decide +kernel
theorem dL_best_78 : decode cL_best 78 = .ok (.iconst 0, 1) := by decide +kernel
theorem dL_best_79 : decode cL_best 79 = .ok (.invokevirtual 34, 3) := by decide +kernel
theorem dL_best_82 : decode cL_best 82 = .ok (.bipush (-6), 2) := by decide +kernel
theorem dL_best_84 : decode cL_best 84 = .ok (.if_icmp .ne 7, 3) := by decide +kernel
theorem dL_best_87 : decode cL_best 87 = .ok (.iconst 1, 1) := by decide +kernel
theorem dL_best_88 : decode cL_best 88 = .ok (.goto 4, 3) := by decide +kernel
theorem dL_best_91 : decode cL_best 91 = .ok (.iconst 0, 1) := by decide +kernel
theorem dL_best_92 : decode cL_best 92 = .ok (.if_icmp .ne 28, 3) := by decide +kernel
theorem dL_best_95 : decode cL_best 95 = .ok (.aload_n 0, 1) := by decide +kernel
theorem dL_best_96 : decode cL_best 96 = .ok (.iconst 0, 1) := by decide +kernel
theorem dL_best_97 : decode cL_best 97 = .ok (.invokevirtual 37, 3) := by decide +kernel
theorem dL_best_100 : decode cL_best 100 = .ok (.iload_n 1, 1) := by decide +kernel
theorem dL_best_101 : decode cL_best 101 = .ok (.bipush (-6), 2) := by decide +kernel
theorem dL_best_103 : decode cL_best 103 = .ok (.if_icmp .ne 8, 3) := by decide +kernel
theorem dL_best_106 : decode cL_best 106 = .ok (.bipush (-6), 2) := by decide +kernel
theorem dL_best_108 : decode cL_best 108 = .ok (.goto 5, 3) := by decide +kernel
theorem dL_best_111 : decode cL_best 111 = .ok (.ldc 15, 2) := by decide +kernel
theorem dL_best_113 : decode cL_best 113 = .ok (.if_icmp .ne 7, 3) := by decide +kernel
theorem dL_best_116 : decode cL_best 116 = .ok (.iconst 1, 1) := by decide +kernel
theorem dL_best_117 : decode cL_best 117 = .ok (.goto 4, 3) := by decide +kernel
theorem dL_best_120 : decode cL_best 120 = .ok (.iconst 0, 1) := by decide +kernel
theorem dL_best_121 : decode cL_best 121 = .ok (.ireturn, 1) := by decide +kernel
theorem dL_act_0 : decode cL_act 0 = .ok (.aload_n 1, 1) := by decide +kernel
theorem dL_act_1 : decode cL_act 1 = .ok (.iload_n 2, 1) := by decide +kernel
theorem dL_act_2 : decode cL_act 2 = .ok (.iconst 1, 1) := by decide +kernel
theorem dL_act_3 : decode cL_act 3 = .ok (.iadd, 1) := by decide +kernel
theorem dL_act_4 : decode cL_act 4 = .ok (.invokestatic 40, 3) := by decide +kernel
theorem dL_act_7 : decode cL_act 7 = .ok (.istore_n 3, 1) := by decide +kernel
theorem dL_act_8 : decode cL_act 8 = .ok (.aload_n 1, 1) := by decide +kernel
theorem dL_act_9 : decode cL_act 9 = .ok (.iload_n 2, 1) := by decide +kernel
theorem dL_act_10 : decode cL_act 10 = .ok (.iconst 2, 1) := by decide +kernel
theorem dL_act_11 : decode cL_act 11 = .ok (.iadd, 1) := by decide +kernel
theorem dL_act_12 : decode cL_act 12 = .ok (.invokestatic 40, 3) := by decide +kernel
theorem dL_act_15 : decode cL_act 15 = .ok (.istore 4, 2) := by decide +kernel
theorem dL_act_17 : decode cL_act 17 = .ok (.aload_n 1, 1) := by decide +kernel
theorem dL_act_18 : decode cL_act 18 = .ok (.iload_n 2, 1) := by decide +kernel
theorem dL_act_19 : decode cL_act 19 = .ok (.iconst 3, 1) := by decide +kernel
theorem dL_act_20 : decode cL_act 20 = .ok (.iadd, 1) := by decide +kernel
theorem dL_act_21 : decode cL_act 21 = .ok (.invokestatic 40, 3) := by decide +kernel
theorem dL_act_24 : decode cL_act 24 = .ok (.istore 5, 2) := by decide +kernel
theorem dL_act_26 : decode cL_act 26 = .ok (.aload_n 1, 1) := by decide +kernel
theorem dL_act_27 : decode cL_act 27 = .ok (.iload_n 2, 1) := by decide +kernel
theorem dL_act_28 : decode cL_act 28 = .ok (.invokestatic 40, 3) := by decide +kernel
theorem dL_act_31 : decode cL_act 31 = .ok (.bipush 16, 2) := by decide +kernel
theorem dL_act_33 : decode cL_act 33 = .ok (.invokestatic 46, 3) := by decide +kernel
theorem dL_act_36 : decode cL_act 36 = .ok (.tableswitch 222 0 14 #[76, 76, 76, 95, 95, 113, 113, 113, 113, 134, 134, 170, 180, 197, 217], 76) := by decide +kernel
theorem dL_act_112 : decode cL_act 112 = .ok (.aload_n 0, 1) := by decide +kernel
theorem dL_act_113 : decode cL_act 113 = .ok (.iload_n 3, 1) := by decide +kernel
theorem dL_act_114 : decode cL_act 114 = .ok (.bipush 24, 2) := by decide +kernel
theorem dL_act_116 : decode cL_act 116 = .ok (.invokestatic 46, 3) := by decide +kernel
theorem dL_act_119 : decode cL_act 119 = .ok (.iload 4, 2) := by decide +kernel
theorem dL_act_121 : decode cL_act 121 = .ok (.sipush 1000, 3) := by decide +kernel
theorem dL_act_124 : decode cL_act 124 = .ok (.invokestatic 46, 3) := by decide +kernel
theorem dL_act_127 : decode cL_act 127 = .ok (.invokevirtual 49, 3) := by decide +kernel
theorem dL_act_130 : decode cL_act 130 = .ok (.ireturn, 1) := by decide +kernel
theorem dL_act_131 : decode cL_act 131 = .ok (.aload_n 0, 1) := by decide +kernel
theorem dL_act_132 : decode cL_act 132 = .ok (.iload_n 3, 1) := by decide +kernel
theorem dL_act_133 : decode cL_act 133 = .ok (.bipush 24, 2) := by decide +kernel
theorem dL_act_135 : decode cL_act 135 = .ok (.invokestatic 46, 3) := by decide +kernel
theorem dL_act_138 : decode cL_act 138 = .ok (.iload 4, 2) := by decide +kernel
theorem dL_act_140 : decode cL_act 140 = .ok (.bipush 40, 2) := by decide +kernel
theorem dL_act_142 : decode cL_act 142 = .ok (.invokestatic 46, 3) := by decide +kernel
theorem dL_act_145 : decode cL_act 145 = .ok (.invokevirtual 52, 3) := by decide +kernel
theorem dL_act_148 : decode cL_act 148 = .ok (.ireturn, 1) := by decide +kernel
theorem dL_act_149 : decode cL_act 149 = .ok (.aload_n 0, 1) := by decide +kernel
theorem dL_act_150 : decode cL_act 150 = .ok (.iload_n 3, 1) := by decide +kernel
theorem dL_act_151 : decode cL_act 151 = .ok (.bipush 24, 2) := by decide +kernel
theorem dL_act_153 : decode cL_act 153 = .ok (.invokestatic 46, 3) := by decide +kernel
theorem dL_act_156 : decode cL_act 156 = .ok (.iload 4, 2) := by decide +kernel
theorem dL_act_158 : decode cL_act 158 = .ok (.bipush 61, 2) := by decide +kernel
theorem dL_act_160 : decode cL_act 160 = .ok (.invokestatic 46, 3) := by decide +kernel
theorem dL_act_163 : decode cL_act 163 = .ok (.bipush 30, 2) := by decide +kernel
theorem dL_act_165 : decode cL_act 165 = .ok (.isub, 1) := by decide +kernel
theorem dL_act_166 : decode cL_act 166 = .ok (.invokevirtual 55, 3) := by decide +kernel
theorem dL_act_169 : decode cL_act 169 = .ok (.ireturn, 1) := by decide +kernel
theorem dL_act_170 : decode cL_act 170 = .ok (.aload_n 0, 1) := by decide +kernel
theorem dL_act_171 : decode cL_act 171 = .ok (.iload_n 3, 1) := by decide +kernel
theorem dL_act_172 : decode cL_act 172 = .ok (.bipush 24, 2) := by decide +kernel
theorem dL_act_174 : decode cL_act 174 = .ok (.invokestatic 46, 3) := by decide +kernel
theorem dL_act_177 : decode cL_act 177 = .ok (.iconst 1, 1) := by decide +kernel
theorem dL_act_178 : decode cL_act 178 = .ok (.iload 4, 2) := by decide +kernel
theorem dL_act_180 : decode cL_act 180 = .ok (.bipush 30, 2) := by decide +kernel
theorem dL_act_182 : decode cL_act 182 = .ok (.invokestatic 46, 3) := by decide +kernel
theorem dL_act_185 : decode cL_act 185 = .ok (.iadd, 1) := by decide +kernel
theorem dL_act_186 : decode cL_act 186 = .ok (.iload 5, 2) := by decide +kernel
theorem dL_act_188 : decode cL_act 188 = .ok (.sipush 9000, 3) := by decide +kernel
theorem dL_act_191 : decode cL_act 191 = .ok (.invokestatic 46, 3) := by decide +kernel
theorem dL_act_194 : decode cL_act 194 = .ok (.iload 4, 2) := by decide +kernel
theorem dL_act_196 : decode cL_act 196 = .ok (.sipush 3000, 3) := by decide +kernel
theorem dL_act_199 : decode cL_act 199 = .ok (.invokestatic 46, 3) := by decide +kernel
theorem dL_act_202 : decode cL_act 202 = .ok (.invokevirtual 58, 3) := by decide +kernel
theorem dL_act_205 : decode cL_act 205 = .ok (.ireturn, 1) := by decide +kernel
theorem dL_act_206 : decode cL_act 206 = .ok (.aload_n 0, 1) := by decide +kernel
theorem dL_act_207 : decode cL_act 207 = .ok (.iload_n 3, 1) := by decide +kernel
theorem dL_act_208 : decode cL_act 208 = .ok (.iconst 5, 1) := by decide +kernel
theorem dL_act_209 : decode cL_act 209 = .ok (.invokestatic 46, 3) := by decide +kernel
theorem dL_act_212 : decode cL_act 212 = .ok (.invokevirtual 62, 3) := by decide +kernel
theorem dL_act_215 : decode cL_act 215 = .ok (.ireturn, 1) := by decide +kernel
theorem dL_act_216 : decode cL_act 216 = .ok (.aload_n 0, 1) := by decide +kernel
theorem dL_act_217 : decode cL_act 217 = .ok (.iload_n 3, 1) := by decide +kernel
theorem dL_act_218 : decode cL_act 218 = .ok (.iconst 5, 1) := by decide +kernel
theorem dL_act_219 : decode cL_act 219 = .ok (.invokestatic 46, 3) := by decide +kernel
theorem dL_act_222 : decode cL_act 222 = .ok (.iload 4, 2) := by decide +kernel
theorem dL_act_224 : decode cL_act 224 = .ok (.bipush 31, 2) := by decide +kernel
theorem dL_act_226 : decode cL_act 226 = .ok (.invokestatic 46, 3) := by decide +kernel
theorem dL_act_229 : decode cL_act 229 = .ok (.invokevirtual 65, 3) := by decide +kernel
theorem dL_act_232 : decode cL_act 232 = .ok (.ireturn, 1) := by decide +kernel
theorem dL_act_233 : decode cL_act 233 = .ok (.aload_n 0, 1) := by decide +kernel
theorem dL_act_234 : decode cL_act 234 = .ok (.iconst 5, 1) := by decide +kernel
theorem dL_act_235 : decode cL_act 235 = .ok (.iload_n 3, 1) := by decide +kernel
theorem dL_act_236 : decode cL_act 236 = .ok (.iconst 5, 1) := by decide +kernel
theorem dL_act_237 : decode cL_act 237 = .ok (.invokestatic 46, 3) := by decide +kernel
theorem dL_act_240 : decode cL_act 240 = .ok (.iadd, 1) := by decide +kernel
theorem dL_act_241 : decode cL_act 241 = .ok (.iload 4, 2) := by decide +kernel
theorem dL_act_243 : decode cL_act 243 = .ok (.sipush 201, 3) := by decide +kernel
theorem dL_act_246 : decode cL_act 246 = .ok (.invokestatic 46, 3) := by decide +kernel
theorem dL_act_249 : decode cL_act 249 = .ok (.invokevirtual 65, 3) := by decide +kernel
theorem dL_act_252 : decode cL_act 252 = .ok (.ireturn, 1) := by decide +kernel
theorem dL_act_253 : decode cL_act 253 = .ok (.aload_n 0, 1) := by decide +kernel
theorem dL_act_254 : decode cL_act 254 = .ok (.invokevirtual 68, 3) := by decide +kernel
theorem dL_act_257 : decode cL_act 257 = .ok (.ireturn, 1) := by decide +kernel
theorem dL_act_258 : decode cL_act 258 = .ok (.iload 4, 2) := by decide +kernel
theorem dL_act_260 : decode cL_act 260 = .ok (.iconst 4, 1) := by decide +kernel
theorem dL_act_261 : decode cL_act 261 = .ok (.invokestatic 46, 3) := by decide +kernel
theorem dL_act_264 : decode cL_act 264 = .ok (.ifCond .ne 10, 3) := by decide +kernel
theorem dL_act_267 : decode cL_act 267 = .ok (.aload_n 0, 1) := by decide +kernel
theorem dL_act_268 : decode cL_act 268 = .ok (.invokevirtual 71, 3) := by decide +kernel
theorem dL_act_271 : decode cL_act 271 = .ok (.goto 4, 3) := by decide +kernel
theorem dL_act_274 : decode cL_act 274 = .ok (.iconst 0, 1) := by decide +kernel
theorem dL_act_275 : decode cL_act 275 = .ok (.ireturn, 1) := by decide +kernel
theorem dL_law_0 : decode cL_law 0 = .ok (.new 10, 3) := by decide +kernel
theorem dL_law_3 : decode cL_law 3 = .ok (.dup, 1) := by decide +kernel
theorem dL_law_4 : decode cL_law 4 = .ok (.invokespecial 74, 3) := by decide +kernel
theorem dL_law_7 : decode cL_law 7 = .ok (.astore_n 1, 1) := by decide +kernel
theorem dL_law_8 : decode cL_law 8 = .ok (.iconst 1, 1) := by decide +kernel
theorem dL_law_9 : decode cL_law 9 = .ok (.istore_n 2, 1) := by decide +kernel
theorem dL_law_10 : decode cL_law 10 = .ok (.aload_n 0, 1) := by decide +kernel
theorem dL_law_11 : decode cL_law 11 = .ok (.arraylength, 1) := by decide +kernel
theorem dL_law_12 : decode cL_law 12 = .ok (.iconst 4, 1) := by decide +kernel
theorem dL_law_13 : decode cL_law 13 = .ok (.idiv, 1) := by decide +kernel
theorem dL_law_14 : decode cL_law 14 = .ok (.bipush 20, 2) := by decide +kernel
theorem dL_law_16 : decode cL_law 16 = .ok (.if_icmp .le 8, 3) := by decide +kernel
theorem dL_law_19 : decode cL_law 19 = .ok (.bipush 20, 2) := by decide +kernel
theorem dL_law_21 : decode cL_law 21 = .ok (.goto 7, 3) := by decide +kernel
theorem dL_law_24 : decode cL_law 24 = .ok (.aload_n 0, 1) := by decide +kernel
theorem dL_law_25 : decode cL_law 25 = .ok (.arraylength, 1) := by decide +kernel
theorem dL_law_26 : decode cL_law 26 = .ok (.iconst 4, 1) := by decide +kernel
theorem dL_law_27 : decode cL_law 27 = .ok (.idiv, 1) := by decide +kernel
theorem dL_law_28 : decode cL_law 28 = .ok (.istore_n 3, 1) := by decide +kernel
theorem dL_law_29 : decode cL_law 29 = .ok (.iconst 0, 1) := by decide +kernel
theorem dL_law_30 : decode cL_law 30 = .ok (.istore 4, 2) := by decide +kernel
theorem dL_law_32 : decode cL_law 32 = .ok (.iload 4, 2) := by decide +kernel
theorem dL_law_34 : decode cL_law 34 = .ok (.iload_n 3, 1) := by decide +kernel
theorem dL_law_35 : decode cL_law 35 = .ok (.if_icmp .ge 97, 3) := by decide +kernel
theorem dL_law_38 : decode cL_law 38 = .ok (.iload_n 2, 1) := by decide +kernel
theorem dL_law_39 : decode cL_law 39 = .ok (.ifCond .eq 93, 3) := by decide +kernel
theorem dL_law_42 : decode cL_law 42 = .ok (.aload_n 1, 1) := by decide +kernel
theorem dL_law_43 : decode cL_law 43 = .ok (.bipush 12, 2) := by decide +kernel
theorem dL_law_45 : decode cL_law 45 = .ok (.invokevirtual 9, 3) := by decide +kernel
theorem dL_law_48 : decode cL_law 48 = .ok (.istore 5, 2) := by decide +kernel
theorem dL_law_50 : decode cL_law 50 = .ok (.aload_n 1, 1) := by decide +kernel
theorem dL_law_51 : decode cL_law 51 = .ok (.iconst 0, 1) := by decide +kernel
theorem dL_law_52 : decode cL_law 52 = .ok (.invokevirtual 21, 3) := by decide +kernel
theorem dL_law_55 : decode cL_law 55 = .ok (.istore 6, 2) := by decide +kernel
theorem dL_law_57 : decode cL_law 57 = .ok (.aload_n 1, 1) := by decide +kernel
theorem dL_law_58 : decode cL_law 58 = .ok (.bipush 10, 2) := by decide +kernel
theorem dL_law_60 : decode cL_law 60 = .ok (.invokevirtual 9, 3) := by decide +kernel
theorem dL_law_63 : decode cL_law 63 = .ok (.istore 7, 2) := by decide +kernel
theorem dL_law_65 : decode cL_law 65 = .ok (.aload_n 1, 1) := by decide +kernel
theorem dL_law_66 : decode cL_law 66 = .ok (.aload_n 0, 1) := by decide +kernel
theorem dL_law_67 : decode cL_law 67 = .ok (.iconst 4, 1) := by decide +kernel
theorem dL_law_68 : decode cL_law 68 = .ok (.iload 4, 2) := by decide +kernel
theorem dL_law_70 : decode cL_law 70 = .ok (.imul, 1) := by decide +kernel
theorem dL_law_71 : decode cL_law 71 = .ok (.invokestatic 75, 3) := by decide +kernel
theorem dL_law_74 : decode cL_law 74 = .ok (.istore 8, 2) := by decide +kernel
theorem dL_law_76 : decode cL_law 76 = .ok (.iload 8, 2) := by decide +kernel
theorem dL_law_78 : decode cL_law 78 = .ok (.ifCond .ge 35, 3) := by decide +kernel
theorem dL_law_81 : decode cL_law 81 = .ok (.aload_n 1, 1) := by decide +kernel
theorem dL_law_82 : decode cL_law 82 = .ok (.bipush 12, 2) := by decide +kernel
theorem dL_law_84 : decode cL_law 84 = .ok (.invokevirtual 9, 3) := by decide +kernel
theorem dL_law_87 : decode cL_law 87 = .ok (.iload 5, 2) := by decide +kernel
theorem dL_law_89 : decode cL_law 89 = .ok (.if_icmp .ne 35, 3) := by decide +kernel
theorem dL_law_92 : decode cL_law 92 = .ok (.aload_n 1, 1) := by decide +kernel
theorem dL_law_93 : decode cL_law 93 = .ok (.iconst 0, 1) := by decide +kernel
theorem dL_law_94 : decode cL_law 94 = .ok (.invokevirtual 21, 3) := by decide +kernel
theorem dL_law_97 : decode cL_law 97 = .ok (.iload 6, 2) := by decide +kernel
theorem dL_law_99 : decode cL_law 99 = .ok (.if_icmp .ne 25, 3) := by decide +kernel
theorem dL_law_102 : decode cL_law 102 = .ok (.aload_n 1, 1) := by decide +kernel
theorem dL_law_103 : decode cL_law 103 = .ok (.bipush 10, 2) := by decide +kernel
theorem dL_law_105 : decode cL_law 105 = .ok (.invokevirtual 9, 3) := by decide +kernel
theorem dL_law_108 : decode cL_law 108 = .ok (.iload 7, 2) := by decide +kernel
theorem dL_law_110 : decode cL_law 110 = .ok (.if_icmp .ne 14, 3) := by decide +kernel
theorem dL_law_113 : decode cL_law 113 = .ok (.aload_n 1, 1) := by decide +kernel
theorem dL_law_114 : decode cL_law 114 = .ok (.invokestatic 79, 3) := by decide +kernel
theorem dL_law_117 : decode cL_law 117 = .ok (.ifCond .eq 7, 3) := by decide +kernel
theorem dL_law_120 : decode cL_law 120 = .ok (.iconst 1, 1) := by decide +kernel
theorem dL_law_121 : decode cL_law 121 = .ok (.goto 4, 3) := by decide +kernel
theorem dL_law_124 : decode cL_law 124 = .ok (.iconst 0, 1) := by decide +kernel
theorem dL_law_125 : decode cL_law 125 = .ok (.istore_n 2, 1) := by decide +kernel
theorem dL_law_126 : decode cL_law 126 = .ok (.iinc 4 1, 3) := by decide +kernel
theorem dL_law_129 : decode cL_law 129 = .ok (.goto (-97), 3) := by decide +kernel
theorem dL_law_132 : decode cL_law 132 = .ok (.iload_n 2, 1) := by decide +kernel
theorem dL_law_133 : decode cL_law 133 = .ok (.ifCond .eq 14, 3) := by decide +kernel
theorem dL_law_136 : decode cL_law 136 = .ok (.aload_n 1, 1) := by decide +kernel
theorem dL_law_137 : decode cL_law 137 = .ok (.invokestatic 83, 3) := by decide +kernel
theorem dL_law_140 : decode cL_law 140 = .ok (.ifCond .eq 7, 3) := by decide +kernel
theorem dL_law_143 : decode cL_law 143 = .ok (.iconst 1, 1) := by decide +kernel
theorem dL_law_144 : decode cL_law 144 = .ok (.goto 4, 3) := by decide +kernel
theorem dL_law_147 : decode cL_law 147 = .ok (.iconst 0, 1) := by decide +kernel
theorem dL_law_148 : decode cL_law 148 = .ok (.ireturn, 1) := by decide +kernel
