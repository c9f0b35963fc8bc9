theorem dL_low_0 : decode cL_low 0 = .ok (.iload_n 0, 1) := by decide +kernel
theorem dL_low_1 : decode cL_low 1 = .ok (.ldc 7, 2) := by decide +kernel
theorem dL_low_3 : decode cL_low 3 = .ok (.iand, 1) := by decide +kernel
theorem dL_low_4 : decode cL_low 4 = .ok (.iload_n 1, 1) := by decide +kernel
theorem dL_low_5 : decode cL_low 5 = .ok (.irem, 1) := by decide +kernel
theorem dL_low_6 : decode cL_low 6 = .ok (.ireturn, 1) := by decide +kernel
theorem dL_cell_0 : decode cL_cell 0 = .ok (.iload_n 1, 1) := by decide +kernel
theorem dL_cell_1 : decode cL_cell 1 = .ok (.aload_n 0, 1) := by decide +kernel
theorem dL_cell_2 : decode cL_cell 2 = .ok (.arraylength, 1) := by decide +kernel
theorem dL_cell_3 : decode cL_cell 3 = .ok (.if_icmp .ge 9, 3) := by decide +kernel
theorem dL_cell_6 : decode cL_cell 6 = .ok (.aload_n 0, 1) := by decide +kernel
theorem dL_cell_7 : decode cL_cell 7 = .ok (.iload_n 1, 1) := by decide +kernel
theorem dL_cell_8 : decode cL_cell 8 = .ok (.iaload, 1) := by decide +kernel
theorem dL_cell_9 : decode cL_cell 9 = .ok (.goto 11, 3) := by decide +kernel
theorem dL_cell_12 : decode cL_cell 12 = .ok (.ldc 8, 2) := by decide +kernel
theorem dL_cell_14 : decode cL_cell 14 = .ok (.iload_n 1, 1) := by decide +kernel
theorem dL_cell_15 : decode cL_cell 15 = .ok (.imul, 1) := by decide +kernel
theorem dL_cell_16 : decode cL_cell 16 = .ok (.sipush 977, 3) := by decide +kernel
theorem dL_cell_19 : decode cL_cell 19 = .ok (.iadd, 1) := by decide +kernel
theorem dL_cell_20 : decode cL_cell 20 = .ok (.ireturn, 1) := by decide +kernel
theorem dL_water_0 : decode cL_water 0 = .ok (.aload_n 0, 1) := by decide +kernel
theorem dL_water_1 : decode cL_water 1 = .ok (.bipush 7, 2) := by decide +kernel
theorem dL_water_3 : decode cL_water 3 = .ok (.invokevirtual 9, 3) := by decide +kernel
theorem dL_water_6 : decode cL_water 6 = .ok (.istore_n 1, 1) := by decide +kernel
theorem dL_water_7 : decode cL_water 7 = .ok (.ldc 15, 2) := by decide +kernel
theorem dL_water_9 : decode cL_water 9 = .ok (.istore_n 2, 1) := by decide +kernel
theorem dL_water_10 : decode cL_water 10 = .ok (.iconst 0, 1) := by decide +kernel
theorem dL_water_11 : decode cL_water 11 = .ok (.istore_n 3, 1) := by decide +kernel
theorem dL_water_12 : decode cL_water 12 = .ok (.iconst 0, 1) := by decide +kernel
theorem dL_water_13 : decode cL_water 13 = .ok (.istore 4, 2) := by decide +kernel
theorem dL_water_15 : decode cL_water 15 = .ok (.iconst 0, 1) := by decide +kernel
theorem dL_water_16 : decode cL_water 16 = .ok (.istore 5, 2) := by decide +kernel
theorem dL_water_18 : decode cL_water 18 = .ok (.iconst 0, 1) := by decide +kernel
theorem dL_water_19 : decode cL_water 19 = .ok (.istore 6, 2) := by decide +kernel
theorem dL_water_21 : decode cL_water 21 = .ok (.iconst 0, 1) := by decide +kernel
theorem dL_water_22 : decode cL_water 22 = .ok (.istore 7, 2) := by decide +kernel
theorem dL_water_24 : decode cL_water 24 = .ok (.iconst 0, 1) := by decide +kernel
theorem dL_water_25 : decode cL_water 25 = .ok (.istore 8, 2) := by decide +kernel
theorem dL_water_27 : decode cL_water 27 = .ok (.aload_n 0, 1) := by decide +kernel
theorem dL_water_28 : decode cL_water 28 = .ok (.iconst 5, 1) := by decide +kernel
theorem dL_water_29 : decode cL_water 29 = .ok (.invokevirtual 9, 3) := by decide +kernel
theorem dL_water_32 : decode cL_water 32 = .ok (.aload_n 0, 1) := by decide +kernel
theorem dL_water_33 : decode cL_water 33 = .ok (.bipush 6, 2) := by decide +kernel
theorem dL_water_35 : decode cL_water 35 = .ok (.invokevirtual 9, 3) := by decide +kernel
theorem dL_water_38 : decode cL_water 38 = .ok (.if_icmp .gt 7, 3) := by decide +kernel
theorem dL_water_41 : decode cL_water 41 = .ok (.iconst 1, 1) := by decide +kernel
theorem dL_water_42 : decode cL_water 42 = .ok (.goto 4, 3) := by decide +kernel
theorem dL_water_45 : decode cL_water 45 = .ok (.iconst 0, 1) := by decide +kernel
theorem dL_water_46 : decode cL_water 46 = .ok (.istore 9, 2) := by decide +kernel
theorem dL_water_48 : decode cL_water 48 = .ok (.iconst 0, 1) := by decide +kernel
theorem dL_water_49 : decode cL_water 49 = .ok (.istore 10, 2) := by decide +kernel
theorem dL_water_51 : decode cL_water 51 = .ok (.iload 10, 2) := by decide +kernel
theorem dL_water_53 : decode cL_water 53 = .ok (.bipush 24, 2) := by decide +kernel
theorem dL_water_55 : decode cL_water 55 = .ok (.if_icmp .ge 370, 3) := by decide +kernel
theorem dL_water_58 : decode cL_water 58 = .ok (.iload 9, 2) := by decide +kernel
theorem dL_water_60 : decode cL_water 60 = .ok (.ifCond .eq 365, 3) := by decide +kernel
theorem dL_water_63 : decode cL_water 63 = .ok (.aload_n 0, 1) := by decide +kernel
theorem dL_water_64 : decode cL_water 64 = .ok (.iload 10, 2) := by decide +kernel
theorem dL_water_66 : decode cL_water 66 = .ok (.iconst 1, 1) := by decide +kernel
theorem dL_water_67 : decode cL_water 67 = .ok (.invokevirtual 16, 3) := by decide +kernel
theorem dL_water_70 : decode cL_water 70 = .ok (.istore 11, 2) := by decide +kernel
theorem dL_water_72 : decode cL_water 72 = .ok (.aload_n 0, 1) := by decide +kernel
theorem dL_water_73 : decode cL_water 73 = .ok (.iload 10, 2) := by decide +kernel
theorem dL_water_75 : decode cL_water 75 = .ok (.iconst 2, 1) := by decide +kernel
theorem dL_water_76 : decode cL_water 76 = .ok (.invokevirtual 16, 3) := by decide +kernel
theorem dL_water_79 : decode cL_water 79 = .ok (.bipush 100, 2) := by decide +kernel
theorem dL_water_81 : decode cL_water 81 = .ok (.isub, 1) := by decide +kernel
theorem dL_water_82 : decode cL_water 82 = .ok (.istore 12, 2) := by decide +kernel
theorem dL_water_84 : decode cL_water 84 = .ok (.aload_n 0, 1) := by decide +kernel
theorem dL_water_85 : decode cL_water 85 = .ok (.iload 10, 2) := by decide +kernel
theorem dL_water_87 : decode cL_water 87 = .ok (.iconst 3, 1) := by decide +kernel
theorem dL_water_88 : decode cL_water 88 = .ok (.invokevirtual 16, 3) := by decide +kernel
theorem dL_water_91 : decode cL_water 91 = .ok (.istore 13, 2) := by decide +kernel
theorem dL_water_93 : decode cL_water 93 = .ok (.aload_n 0, 1) := by decide +kernel
theorem dL_water_94 : decode cL_water 94 = .ok (.iload 10, 2) := by decide +kernel
theorem dL_water_96 : decode cL_water 96 = .ok (.iconst 4, 1) := by decide +kernel
theorem dL_water_97 : decode cL_water 97 = .ok (.invokevirtual 16, 3) := by decide +kernel
theorem dL_water_100 : decode cL_water 100 = .ok (.istore 14, 2) := by decide +kernel
theorem dL_water_102 : decode cL_water 102 = .ok (.aload_n 0, 1) := by decide +kernel
theorem dL_water_103 : decode cL_water 103 = .ok (.iload 10, 2) := by decide +kernel
theorem dL_water_105 : decode cL_water 105 = .ok (.iconst 5, 1) := by decide +kernel
theorem dL_water_106 : decode cL_water 106 = .ok (.invokevirtual 16, 3) := by decide +kernel
theorem dL_water_109 : decode cL_water 109 = .ok (.istore 15, 2) := by decide +kernel
theorem dL_water_111 : decode cL_water 111 = .ok (.aload_n 0, 1) := by decide +kernel
theorem dL_water_112 : decode cL_water 112 = .ok (.iload 10, 2) := by decide +kernel
theorem dL_water_114 : decode cL_water 114 = .ok (.bipush 6, 2) := by decide +kernel
theorem dL_water_116 : decode cL_water 116 = .ok (.invokevirtual 16, 3) := by decide +kernel
theorem dL_water_119 : decode cL_water 119 = .ok (.istore 16, 2) := by decide +kernel
theorem dL_water_121 : decode cL_water 121 = .ok (.aload_n 0, 1) := by decide +kernel
theorem dL_water_122 : decode cL_water 122 = .ok (.iload 10, 2) := by decide +kernel
theorem dL_water_124 : decode cL_water 124 = .ok (.bipush 7, 2) := by decide +kernel
theorem dL_water_126 : decode cL_water 126 = .ok (.invokevirtual 16, 3) := by decide +kernel
theorem dL_water_129 : decode cL_water 129 = .ok (.istore 17, 2) := by decide +kernel
theorem dL_water_131 : decode cL_water 131 = .ok (.aload_n 0, 1) := by decide +kernel
theorem dL_water_132 : decode cL_water 132 = .ok (.iload 10, 2) := by decide +kernel
theorem dL_water_134 : decode cL_water 134 = .ok (.bipush 10, 2) := by decide +kernel
theorem dL_water_136 : decode cL_water 136 = .ok (.invokevirtual 16, 3) := by decide +kernel
theorem dL_water_139 : decode cL_water 139 = .ok (.istore 18, 2) := by decide +kernel
theorem dL_water_141 : decode cL_water 141 = .ok (.iload 12, 2) := by decide +kernel
theorem dL_water_143 : decode cL_water 143 = .ok (.aload_n 0, 1) := by decide +kernel
theorem dL_water_144 : decode cL_water 144 = .ok (.iconst 4, 1) := by decide +kernel
theorem dL_water_145 : decode cL_water 145 = .ok (.invokevirtual 9, 3) := by decide +kernel
theorem dL_water_148 : decode cL_water 148 = .ok (.if_icmp .le 8, 3) := by decide +kernel
theorem dL_water_151 : decode cL_water 151 = .ok (.iload 12, 2) := by decide +kernel
theorem dL_water_153 : decode cL_water 153 = .ok (.goto 8, 3) := by decide +kernel
theorem dL_water_156 : decode cL_water 156 = .ok (.aload_n 0, 1) := by decide +kernel
theorem dL_water_157 : decode cL_water 157 = .ok (.iconst 4, 1) := by decide +kernel
theorem dL_water_158 : decode cL_water 158 = .ok (.invokevirtual 9, 3) := by decide +kernel
theorem dL_water_161 : decode cL_water 161 = .ok (.istore 19, 2) := by decide +kernel
theorem dL_water_163 : decode cL_water 163 = .ok (.iload 17, 2) := by decide +kernel
theorem dL_water_165 : decode cL_water 165 = .ok (.iload_n 1, 1) := by decide +kernel
theorem dL_water_166 : decode cL_water 166 = .ok (.iload 11, 2) := by decide +kernel
theorem dL_water_168 : decode cL_water 168 = .ok (.iadd, 1) := by decide +kernel
theorem dL_water_169 : decode cL_water 169 = .ok (.iload 14, 2) := by decide +kernel
theorem dL_water_171 : decode cL_water 171 = .ok (.iadd, 1) := by decide +kernel
theorem dL_water_172 : decode cL_water 172 = .ok (.iload 15, 2) := by decide +kernel
theorem dL_water_174 : decode cL_water 174 = .ok (.isub, 1) := by decide +kernel
theorem dL_water_175 : decode cL_water 175 = .ok (.iload 13, 2) := by decide +kernel
theorem dL_water_177 : decode cL_water 177 = .ok (.isub, 1) := by decide +kernel
theorem dL_water_178 : decode cL_water 178 = .ok (.iload 16, 2) := by decide +kernel
theorem dL_water_180 : decode cL_water 180 = .ok (.isub, 1) := by decide +kernel
theorem dL_water_181 : decode cL_water 181 = .ok (.if_icmp .ne 44, 3) := by decide +kernel
theorem dL_water_184 : decode cL_water 184 = .ok (.iload 17, 2) := by decide +kernel
theorem dL_water_186 : decode cL_water 186 = .ok (.ifCond .lt 39, 3) := by decide +kernel
theorem dL_water_189 : decode cL_water 189 = .ok (.iload 17, 2) := by decide +kernel
theorem dL_water_191 : decode cL_water 191 = .ok (.aload_n 0, 1) := by decide +kernel
theorem dL_water_192 : decode cL_water 192 = .ok (.bipush 6, 2) := by decide +kernel
theorem dL_water_194 : decode cL_water 194 = .ok (.invokevirtual 9, 3) := by decide +kernel
theorem dL_water_197 : decode cL_water 197 = .ok (.if_icmp .gt 28, 3) := by decide +kernel
theorem dL_water_200 : decode cL_water 200 = .ok (.iload 12, 2) := by decide +kernel
theorem dL_water_202 : decode cL_water 202 = .ok (.aload_n 0, 1) := by decide +kernel
theorem dL_water_203 : decode cL_water 203 = .ok (.iconst 0, 1) := by decide +kernel
theorem dL_water_204 : decode cL_water 204 = .ok (.invokevirtual 9, 3) := by decide +kernel
theorem dL_water_207 : decode cL_water 207 = .ok (.ineg, 1) := by decide +kernel
theorem dL_water_208 : decode cL_water 208 = .ok (.if_icmp .lt 17, 3) := by decide +kernel
theorem dL_water_211 : decode cL_water 211 = .ok (.iload 12, 2) := by decide +kernel
theorem dL_water_213 : decode cL_water 213 = .ok (.aload_n 0, 1) := by decide +kernel
theorem dL_water_214 : decode cL_water 214 = .ok (.iconst 1, 1) := by decide +kernel
theorem dL_water_215 : decode cL_water 215 = .ok (.invokevirtual 9, 3) := by decide +kernel
theorem dL_water_218 : decode cL_water 218 = .ok (.if_icmp .gt 7, 3) := by decide +kernel
theorem dL_water_221 : decode cL_water 221 = .ok (.iconst 1, 1) := by decide +kernel
theorem dL_water_222 : decode cL_water 222 = .ok (.goto 4, 3) := by decide +kernel
theorem dL_water_225 : decode cL_water 225 = .ok (.iconst 0, 1) := by decide +kernel
theorem dL_water_226 : decode cL_water 226 = .ok (.istore 9, 2) := by decide +kernel
theorem dL_water_228 : decode cL_water 228 = .ok (.iload 9, 2) := by decide +kernel
theorem dL_water_230 : decode cL_water 230 = .ok (.ifCond .eq 72, 3) := by decide +kernel
theorem dL_water_233 : decode cL_water 233 = .ok (.iload 13, 2) := by decide +kernel
theorem dL_water_235 : decode cL_water 235 = .ok (.ifCond .eq 16, 3) := by decide +kernel
theorem dL_water_238 : decode cL_water 238 = .ok (.iload 17, 2) := by decide +kernel
theorem dL_water_240 : decode cL_water 240 = .ok (.iload 16, 2) := by decide +kernel
theorem dL_water_242 : decode cL_water 242 = .ok (.iadd, 1) := by decide +kernel
theorem dL_water_243 : decode cL_water 243 = .ok (.aload_n 0, 1) := by decide +kernel
theorem dL_water_244 : decode cL_water 244 = .ok (.iconst 5, 1) := by decide +kernel
theorem dL_water_245 : decode cL_water 245 = .ok (.invokevirtual 9, 3) := by decide +kernel
theorem dL_water_248 : decode cL_water 248 = .ok (.if_icmp .lt 54, 3) := by decide +kernel
theorem dL_water_251 : decode cL_water 251 = .ok (.iload 16, 2) := by decide +kernel
theorem dL_water_253 : decode cL_water 253 = .ok (.ifCond .eq 14, 3) := by decide +kernel
theorem dL_water_256 : decode cL_water 256 = .ok (.iload 17, 2) := by decide +kernel
theorem dL_water_258 : decode cL_water 258 = .ok (.aload_n 0, 1) := by decide +kernel
theorem dL_water_259 : decode cL_water 259 = .ok (.bipush 6, 2) := by decide +kernel
theorem dL_water_261 : decode cL_water 261 = .ok (.invokevirtual 9, 3) := by decide +kernel
theorem dL_water_264 : decode cL_water 264 = .ok (.if_icmp .ne 38, 3) := by decide +kernel
theorem dL_water_267 : decode cL_water 267 = .ok (.iload 14, 2) := by decide +kernel
theorem dL_water_269 : decode cL_water 269 = .ok (.iload 12, 2) := by decide +kernel
theorem dL_water_271 : decode cL_water 271 = .ok (.ifCond .ge 9, 3) := by decide +kernel
theorem dL_water_274 : decode cL_water 274 = .ok (.iload 12, 2) := by decide +kernel
theorem dL_water_276 : decode cL_water 276 = .ok (.ineg, 1) := by decide +kernel
theorem dL_water_277 : decode cL_water 277 = .ok (.goto 4, 3) := by decide +kernel
theorem dL_water_280 : decode cL_water 280 = .ok (.iconst 0, 1) := by decide +kernel
theorem dL_water_281 : decode cL_water 281 = .ok (.if_icmp .ne 21, 3) := by decide +kernel
theorem dL_water_284 : decode cL_water 284 = .ok (.iload 15, 2) := by decide +kernel
theorem dL_water_286 : decode cL_water 286 = .ok (.iload 14, 2) := by decide +kernel
theorem dL_water_288 : decode cL_water 288 = .ok (.if_icmp .gt 14, 3) := by decide +kernel
theorem dL_water_291 : decode cL_water 291 = .ok (.iload 13, 2) := by decide +kernel
theorem dL_water_293 : decode cL_water 293 = .ok (.iload 19, 2) := by decide +kernel
theorem dL_water_295 : decode cL_water 295 = .ok (.if_icmp .gt 7, 3) := by decide +kernel
theorem dL_water_298 : decode cL_water 298 = .ok (.iconst 1, 1) := by decide +kernel
theorem dL_water_299 : decode cL_water 299 = .ok (.goto 4, 3) := by decide +kernel
theorem dL_water_302 : decode cL_water 302 = .ok (.iconst 0, 1) := by decide +kernel
theorem dL_water_303 : decode cL_water 303 = .ok (.istore 9, 2) := by decide +kernel
theorem dL_water_305 : decode cL_water 305 = .ok (.iload 9, 2) := by decide +kernel
theorem dL_water_307 : decode cL_water 307 = .ok (.ifCond .eq 41, 3) := by decide +kernel
theorem dL_water_310 : decode cL_water 310 = .ok (.iload 18, 2) := by decide +kernel
theorem dL_water_312 : decode cL_water 312 = .ok (.bipush (-6), 2) := by decide +kernel
theorem dL_water_314 : decode cL_water 314 = .ok (.if_icmp .eq 30, 3) := by decide +kernel
theorem dL_water_317 : decode cL_water 317 = .ok (.iload 18, 2) := by decide +kernel
theorem dL_water_319 : decode cL_water 319 = .ok (.iload 10, 2) := by decide +kernel
theorem dL_water_321 : decode cL_water 321 = .ok (.if_icmp .ge 27, 3) := by decide +kernel
theorem dL_water_324 : decode cL_water 324 = .ok (.iload 8, 2) := by decide +kernel
theorem dL_water_326 : decode cL_water 326 = .ok (.iload 18, 2) := by decide +kernel
theorem dL_water_328 : decode cL_water 328 = .ok (.ishr, 1) := by decide +kernel
theorem dL_water_329 : decode cL_water 329 = .ok (.iconst 1, 1) := by decide +kernel
theorem dL_water_330 : decode cL_water 330 = .ok (.iand, 1) := by decide +kernel
theorem dL_water_331 : decode cL_water 331 = .ok (.iconst 1, 1) := by decide +kernel
theorem dL_water_332 : decode cL_water 332 = .ok (.if_icmp .ne 16, 3) := by decide +kernel
theorem dL_water_335 : decode cL_water 335 = .ok (.iload 8, 2) := by decide +kernel
theorem dL_water_337 : decode cL_water 337 = .ok (.iload 18, 2) := by decide +kernel
theorem dL_water_339 : decode cL_water 339 = .ok (.ishr, 1) := by decide +kernel
theorem dL_water_340 : decode cL_water 340 = .ok (.iconst 1, 1) := by decide +kernel
theorem dL_water_341 : decode cL_water 341 = .ok (.if_icmp .ne 7, 3) := by decide +kernel
theorem dL_water_344 : decode cL_water 344 = .ok (.iconst 1, 1) := by decide +kernel
theorem dL_water_345 : decode cL_water 345 = .ok (.goto 4, 3) := by decide +kernel
theorem dL_water_348 : decode cL_water 348 = .ok (.iconst 0, 1) := by decide +kernel
theorem dL_water_349 : decode cL_water 349 = .ok (.istore 9, 2) := by decide +kernel
theorem dL_water_351 : decode cL_water 351 = .ok (.iload 8, 2) := by decide +kernel
theorem dL_water_353 : decode cL_water 353 = .ok (.iload 16, 2) := by decide +kernel
theorem dL_water_355 : decode cL_water 355 = .ok (.ifCond .le 10, 3) := by decide +kernel
theorem dL_water_358 : decode cL_water 358 = .ok (.iconst 1, 1) := by decide +kernel
theorem dL_water_359 : decode cL_water 359 = .ok (.iload 10, 2) := by decide +kernel
theorem dL_water_361 : decode cL_water 361 = .ok (.ishl, 1) := by decide +kernel
theorem dL_water_362 : decode cL_water 362 = .ok (.goto 4, 3) := by decide +kernel
theorem dL_water_365 : decode cL_water 365 = .ok (.iconst 0, 1) := by decide +kernel
theorem dL_water_366 : decode cL_water 366 = .ok (.ior, 1) := by decide +kernel
theorem dL_water_367 : decode cL_water 367 = .ok (.istore 8, 2) := by decide +kernel
theorem dL_water_369 : decode cL_water 369 = .ok (.iload 17, 2) := by decide +kernel
theorem dL_water_371 : decode cL_water 371 = .ok (.istore_n 1, 1) := by decide +kernel
theorem dL_water_372 : decode cL_water 372 = .ok (.iload_n 3, 1) := by decide +kernel
theorem dL_water_373 : decode cL_water 373 = .ok (.iload 13, 2) := by decide +kernel
theorem dL_water_375 : decode cL_water 375 = .ok (.iadd, 1) := by decide +kernel
theorem dL_water_376 : decode cL_water 376 = .ok (.istore_n 3, 1) := by decide +kernel
theorem dL_water_377 : decode cL_water 377 = .ok (.iload 4, 2) := by decide +kernel
theorem dL_water_379 : decode cL_water 379 = .ok (.iload 14, 2) := by decide +kernel
theorem dL_water_381 : decode cL_water 381 = .ok (.iadd, 1) := by decide +kernel
theorem dL_water_382 : decode cL_water 382 = .ok (.istore 4, 2) := by decide +kernel
theorem dL_water_384 : decode cL_water 384 = .ok (.iload 5, 2) := by decide +kernel
theorem dL_water_386 : decode cL_water 386 = .ok (.iload 15, 2) := by decide +kernel
theorem dL_water_388 : decode cL_water 388 = .ok (.iadd, 1) := by decide +kernel
theorem dL_water_389 : decode cL_water 389 = .ok (.istore 5, 2) := by decide +kernel
theorem dL_water_391 : decode cL_water 391 = .ok (.iload 6, 2) := by decide +kernel
theorem dL_water_393 : decode cL_water 393 = .ok (.iload 16, 2) := by decide +kernel
theorem dL_water_395 : decode cL_water 395 = .ok (.iadd, 1) := by decide +kernel
theorem dL_water_396 : decode cL_water 396 = .ok (.istore 6, 2) := by decide +kernel
theorem dL_water_398 : decode cL_water 398 = .ok (.iload 7, 2) := by decide +kernel
theorem dL_water_400 : decode cL_water 400 = .ok (.iload 11, 2) := by decide +kernel
theorem dL_water_402 : decode cL_water 402 = .ok (.iadd, 1) := by decide +kernel
theorem dL_water_403 : decode cL_water 403 = .ok (.istore 7, 2) := by decide +kernel
theorem dL_water_405 : decode cL_water 405 = .ok (.iload_n 2, 1) := by decide +kernel
theorem dL_water_406 : decode cL_water 406 = .ok (.aload_n 0, 1) := by decide +kernel
theorem dL_water_407 : decode cL_water 407 = .ok (.iload 10, 2) := by decide +kernel
theorem dL_water_409 : decode cL_water 409 = .ok (.bipush 8, 2) := by decide +kernel
theorem dL_water_411 : decode cL_water 411 = .ok (.invokevirtual 16, 3) := by decide +kernel
theorem dL_water_414 : decode cL_water 414 = .ok (.ldc 20, 2) := by decide +kernel
theorem dL_water_416 : decode cL_water 416 = .ok (.isub, 1) := by decide +kernel
theorem dL_water_417 : decode cL_water 417 = .ok (.iadd, 1) := by decide +kernel
theorem dL_water_418 : decode cL_water 418 = .ok (.istore_n 2, 1) := by decide +kernel
theorem dL_water_419 : decode cL_water 419 = .ok (.iinc 10 1, 3) := by decide +kernel
theorem dL_water_422 : decode cL_water 422 = .ok (.goto (-371), 3) := by decide +kernel
theorem dL_water_425 : decode cL_water 425 = .ok (.iload 9, 2) := by decide +kernel
theorem dL_water_427 : decode cL_water 427 = .ok (.ifCond .eq 75, 3) := by decide +kernel
theorem dL_water_430 : decode cL_water 430 = .ok (.iload_n 3, 1) := by decide +kernel
theorem dL_water_431 : decode cL_water 431 = .ok (.aload_n 0, 1) := by decide +kernel
theorem dL_water_432 : decode cL_water 432 = .ok (.iconst 1, 1) := by decide +kernel
theorem dL_water_433 : decode cL_water 433 = .ok (.invokevirtual 21, 3) := by decide +kernel
theorem dL_water_436 : decode cL_water 436 = .ok (.if_icmp .ne 66, 3) := by decide +kernel
theorem dL_water_439 : decode cL_water 439 = .ok (.iload 4, 2) := by decide +kernel
theorem dL_water_441 : decode cL_water 441 = .ok (.aload_n 0, 1) := by decide +kernel
theorem dL_water_442 : decode cL_water 442 = .ok (.iconst 2, 1) := by decide +kernel
theorem dL_water_443 : decode cL_water 443 = .ok (.invokevirtual 21, 3) := by decide +kernel
theorem dL_water_446 : decode cL_water 446 = .ok (.if_icmp .ne 56, 3) := by decide +kernel
theorem dL_water_449 : decode cL_water 449 = .ok (.iload 5, 2) := by decide +kernel
theorem dL_water_451 : decode cL_water 451 = .ok (.aload_n 0, 1) := by decide +kernel
theorem dL_water_452 : decode cL_water 452 = .ok (.iconst 3, 1) := by decide +kernel
theorem dL_water_453 : decode cL_water 453 = .ok (.invokevirtual 21, 3) := by decide +kernel
theorem dL_water_456 : decode cL_water 456 = .ok (.if_icmp .ne 46, 3) := by decide +kernel
theorem dL_water_459 : decode cL_water 459 = .ok (.iload 6, 2) := by decide +kernel
theorem dL_water_461 : decode cL_water 461 = .ok (.aload_n 0, 1) := by decide +kernel
theorem dL_water_462 : decode cL_water 462 = .ok (.iconst 4, 1) := by decide +kernel
theorem dL_water_463 : decode cL_water 463 = .ok (.invokevirtual 21, 3) := by decide +kernel
theorem dL_water_466 : decode cL_water 466 = .ok (.if_icmp .ne 36, 3) := by decide +kernel
theorem dL_water_469 : decode cL_water 469 = .ok (.iload_n 1, 1) := by decide +kernel
theorem dL_water_470 : decode cL_water 470 = .ok (.aload_n 0, 1) := by decide +kernel
theorem dL_water_471 : decode cL_water 471 = .ok (.iconst 5, 1) := by decide +kernel
theorem dL_water_472 : decode cL_water 472 = .ok (.invokevirtual 21, 3) := by decide +kernel
theorem dL_water_475 : decode cL_water 475 = .ok (.if_icmp .ne 27, 3) := by decide +kernel
theorem dL_water_478 : decode cL_water 478 = .ok (.iload 7, 2) := by decide +kernel
theorem dL_water_480 : decode cL_water 480 = .ok (.aload_n 0, 1) := by decide +kernel
theorem dL_water_481 : decode cL_water 481 = .ok (.bipush 10, 2) := by decide +kernel
theorem dL_water_483 : decode cL_water 483 = .ok (.invokevirtual 21, 3) := by decide +kernel
theorem dL_water_486 : decode cL_water 486 = .ok (.if_icmp .ne 16, 3) := by decide +kernel
theorem dL_water_489 : decode cL_water 489 = .ok (.iload_n 2, 1) := by decide +kernel
theorem dL_water_490 : decode cL_water 490 = .ok (.aload_n 0, 1) := by decide +kernel
theorem dL_water_491 : decode cL_water 491 = .ok (.iconst 0, 1) := by decide +kernel
theorem dL_water_492 : decode cL_water 492 = .ok (.invokevirtual 21, 3) := by decide +kernel
theorem dL_water_495 : decode cL_water 495 = .ok (.if_icmp .ne 7, 3) := by decide +kernel
theorem dL_water_498 : decode cL_water 498 = .ok (.iconst 1, 1) := by decide +kernel
theorem dL_water_499 : decode cL_water 499 = .ok (.goto 4, 3) := by decide +kernel
theorem dL_water_502 : decode cL_water 502 = .ok (.iconst 0, 1) := by decide +kernel
theorem dL_water_503 : decode cL_water 503 = .ok (.istore 9, 2) := by decide +kernel
theorem dL_water_505 : decode cL_water 505 = .ok (.iload 9, 2) := by decide +kernel
theorem dL_water_507 : decode cL_water 507 = .ok (.ifCond .eq 75, 3) := by decide +kernel
theorem dL_water_510 : decode cL_water 510 = .ok (.aload_n 0, 1) := by decide +kernel
theorem dL_water_511 : decode cL_water 511 = .ok (.bipush 7, 2) := by decide +kernel
