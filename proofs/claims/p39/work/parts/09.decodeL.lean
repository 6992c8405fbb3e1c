theorem dL_below_0 : decode cL_below 0 = .ok (.iload_n 0, 1) := by decide +kernel
theorem dL_below_1 : decode cL_below 1 = .ok (.ldc 7, 2) := by decide +kernel
theorem dL_below_3 : decode cL_below 3 = .ok (.iand, 1) := by decide +kernel
theorem dL_below_4 : decode cL_below 4 = .ok (.iload_n 1, 1) := by decide +kernel
theorem dL_below_5 : decode cL_below 5 = .ok (.irem, 1) := by decide +kernel
theorem dL_below_6 : decode cL_below 6 = .ok (.ireturn, 1) := by decide +kernel
theorem dL_cell_0 : decode cL_cell 0 = .ok (.iload_n 1, 1) := by decide +kernel
theorem dL_cell_1 : decode cL_cell 1 = .ok (.aload_n 0, 1) := by decide +kernel
theorem dL_cell_2 : decode cL_cell 2 = .ok (.arraylength, 1) := by decide +kernel
theorem dL_cell_3 : decode cL_cell 3 = .ok (.if_icmp .ge 9, 3) := by decide +kernel
theorem dL_cell_6 : decode cL_cell 6 = .ok (.aload_n 0, 1) := by decide +kernel
theorem dL_cell_7 : decode cL_cell 7 = .ok (.iload_n 1, 1) := by decide +kernel
theorem dL_cell_8 : decode cL_cell 8 = .ok (.iaload, 1) := by decide +kernel
theorem dL_cell_9 : decode cL_cell 9 = .ok (.goto 9, 3) := by decide +kernel
theorem dL_cell_12 : decode cL_cell 12 = .ok (.ldc 8, 2) := by decide +kernel
theorem dL_cell_14 : decode cL_cell 14 = .ok (.iload_n 1, 1) := by decide +kernel
theorem dL_cell_15 : decode cL_cell 15 = .ok (.iconst 3, 1) := by decide +kernel
theorem dL_cell_16 : decode cL_cell 16 = .ok (.iadd, 1) := by decide +kernel
theorem dL_cell_17 : decode cL_cell 17 = .ok (.imul, 1) := by decide +kernel
theorem dL_cell_18 : decode cL_cell 18 = .ok (.ireturn, 1) := by decide +kernel
theorem dL_act_0 : decode cL_act 0 = .ok (.aload_n 1, 1) := by decide +kernel
theorem dL_act_1 : decode cL_act 1 = .ok (.getfield 9, 3) := by decide +kernel
theorem dL_act_4 : decode cL_act 4 = .ok (.arraylength, 1) := by decide +kernel
theorem dL_act_5 : decode cL_act 5 = .ok (.istore_n 3, 1) := by decide +kernel
theorem dL_act_6 : decode cL_act 6 = .ok (.iload_n 2, 1) := by decide +kernel
theorem dL_act_7 : decode cL_act 7 = .ok (.bipush 9, 2) := by decide +kernel
theorem dL_act_9 : decode cL_act 9 = .ok (.ishr, 1) := by decide +kernel
theorem dL_act_10 : decode cL_act 10 = .ok (.bipush 20, 2) := by decide +kernel
theorem dL_act_12 : decode cL_act 12 = .ok (.invokestatic 15, 3) := by decide +kernel
theorem dL_act_15 : decode cL_act 15 = .ok (.istore 4, 2) := by decide +kernel
theorem dL_act_17 : decode cL_act 17 = .ok (.iload_n 3, 1) := by decide +kernel
theorem dL_act_18 : decode cL_act 18 = .ok (.ifCond .eq 9, 3) := by decide +kernel
theorem dL_act_21 : decode cL_act 21 = .ok (.iload 4, 2) := by decide +kernel
theorem dL_act_23 : decode cL_act 23 = .ok (.iconst 2, 1) := by decide +kernel
theorem dL_act_24 : decode cL_act 24 = .ok (.if_icmp .ge 99, 3) := by decide +kernel
theorem dL_act_27 : decode cL_act 27 = .ok (.iload_n 3, 1) := by decide +kernel
theorem dL_act_28 : decode cL_act 28 = .ok (.bipush 8, 2) := by decide +kernel
theorem dL_act_30 : decode cL_act 30 = .ok (.if_icmp .ne 5, 3) := by decide +kernel
theorem dL_act_33 : decode cL_act 33 = .ok (.iconst 1, 1) := by decide +kernel
theorem dL_act_34 : decode cL_act 34 = .ok (.ireturn, 1) := by decide +kernel
theorem dL_act_35 : decode cL_act 35 = .ok (.iload_n 3, 1) := by decide +kernel
theorem dL_act_36 : decode cL_act 36 = .ok (.iconst 1, 1) := by decide +kernel
theorem dL_act_37 : decode cL_act 37 = .ok (.iadd, 1) := by decide +kernel
theorem dL_act_38 : decode cL_act 38 = .ok (.anewarray 21, 3) := by decide +kernel
theorem dL_act_41 : decode cL_act 41 = .ok (.astore 5, 2) := by decide +kernel
theorem dL_act_43 : decode cL_act 43 = .ok (.iconst 0, 1) := by decide +kernel
theorem dL_act_44 : decode cL_act 44 = .ok (.istore 6, 2) := by decide +kernel
theorem dL_act_46 : decode cL_act 46 = .ok (.iload 6, 2) := by decide +kernel
theorem dL_act_48 : decode cL_act 48 = .ok (.iload_n 3, 1) := by decide +kernel
theorem dL_act_49 : decode cL_act 49 = .ok (.if_icmp .ge 21, 3) := by decide +kernel
theorem dL_act_52 : decode cL_act 52 = .ok (.aload 5, 2) := by decide +kernel
theorem dL_act_54 : decode cL_act 54 = .ok (.iload 6, 2) := by decide +kernel
theorem dL_act_56 : decode cL_act 56 = .ok (.aload_n 1, 1) := by decide +kernel
theorem dL_act_57 : decode cL_act 57 = .ok (.getfield 9, 3) := by decide +kernel
theorem dL_act_60 : decode cL_act 60 = .ok (.iload 6, 2) := by decide +kernel
theorem dL_act_62 : decode cL_act 62 = .ok (.aaload, 1) := by decide +kernel
theorem dL_act_63 : decode cL_act 63 = .ok (.aastore, 1) := by decide +kernel
theorem dL_act_64 : decode cL_act 64 = .ok (.iinc 6 1, 3) := by decide +kernel
theorem dL_act_67 : decode cL_act 67 = .ok (.goto (-21), 3) := by decide +kernel
theorem dL_act_70 : decode cL_act 70 = .ok (.aload 5, 2) := by decide +kernel
theorem dL_act_72 : decode cL_act 72 = .ok (.iload_n 3, 1) := by decide +kernel
theorem dL_act_73 : decode cL_act 73 = .ok (.new 21, 3) := by decide +kernel
theorem dL_act_76 : decode cL_act 76 = .ok (.dup, 1) := by decide +kernel
theorem dL_act_77 : decode cL_act 77 = .ok (.invokespecial 23, 3) := by decide +kernel
theorem dL_act_80 : decode cL_act 80 = .ok (.aastore, 1) := by decide +kernel
theorem dL_act_81 : decode cL_act 81 = .ok (.aload 5, 2) := by decide +kernel
theorem dL_act_83 : decode cL_act 83 = .ok (.iload_n 3, 1) := by decide +kernel
theorem dL_act_84 : decode cL_act 84 = .ok (.aaload, 1) := by decide +kernel
theorem dL_act_85 : decode cL_act 85 = .ok (.iload_n 2, 1) := by decide +kernel
theorem dL_act_86 : decode cL_act 86 = .ok (.iconst 1, 1) := by decide +kernel
theorem dL_act_87 : decode cL_act 87 = .ok (.ishr, 1) := by decide +kernel
theorem dL_act_88 : decode cL_act 88 = .ok (.bipush 91, 2) := by decide +kernel
theorem dL_act_90 : decode cL_act 90 = .ok (.invokestatic 15, 3) := by decide +kernel
theorem dL_act_93 : decode cL_act 93 = .ok (.putfield 24, 3) := by decide +kernel
theorem dL_act_96 : decode cL_act 96 = .ok (.aload_n 1, 1) := by decide +kernel
theorem dL_act_97 : decode cL_act 97 = .ok (.aload 5, 2) := by decide +kernel
theorem dL_act_99 : decode cL_act 99 = .ok (.putfield 9, 3) := by decide +kernel
theorem dL_act_102 : decode cL_act 102 = .ok (.aload_n 0, 1) := by decide +kernel
theorem dL_act_103 : decode cL_act 103 = .ok (.aload 5, 2) := by decide +kernel
theorem dL_act_105 : decode cL_act 105 = .ok (.iload_n 3, 1) := by decide +kernel
theorem dL_act_106 : decode cL_act 106 = .ok (.aaload, 1) := by decide +kernel
theorem dL_act_107 : decode cL_act 107 = .ok (.getfield 24, 3) := by decide +kernel
theorem dL_act_110 : decode cL_act 110 = .ok (.invokevirtual 28, 3) := by decide +kernel
theorem dL_act_113 : decode cL_act 113 = .ok (.iload_n 3, 1) := by decide +kernel
theorem dL_act_114 : decode cL_act 114 = .ok (.if_icmp .ne 7, 3) := by decide +kernel
theorem dL_act_117 : decode cL_act 117 = .ok (.iconst 1, 1) := by decide +kernel
theorem dL_act_118 : decode cL_act 118 = .ok (.goto 4, 3) := by decide +kernel
theorem dL_act_121 : decode cL_act 121 = .ok (.iconst 0, 1) := by decide +kernel
theorem dL_act_122 : decode cL_act 122 = .ok (.ireturn, 1) := by decide +kernel
theorem dL_act_123 : decode cL_act 123 = .ok (.iload_n 2, 1) := by decide +kernel
theorem dL_act_124 : decode cL_act 124 = .ok (.iconst 1, 1) := by decide +kernel
theorem dL_act_125 : decode cL_act 125 = .ok (.ishr, 1) := by decide +kernel
theorem dL_act_126 : decode cL_act 126 = .ok (.iload_n 3, 1) := by decide +kernel
theorem dL_act_127 : decode cL_act 127 = .ok (.invokestatic 15, 3) := by decide +kernel
theorem dL_act_130 : decode cL_act 130 = .ok (.istore 5, 2) := by decide +kernel
theorem dL_act_132 : decode cL_act 132 = .ok (.aload_n 1, 1) := by decide +kernel
theorem dL_act_133 : decode cL_act 133 = .ok (.getfield 9, 3) := by decide +kernel
theorem dL_act_136 : decode cL_act 136 = .ok (.iload 5, 2) := by decide +kernel
theorem dL_act_138 : decode cL_act 138 = .ok (.aaload, 1) := by decide +kernel
theorem dL_act_139 : decode cL_act 139 = .ok (.astore 6, 2) := by decide +kernel
theorem dL_act_141 : decode cL_act 141 = .ok (.aload 6, 2) := by decide +kernel
theorem dL_act_143 : decode cL_act 143 = .ok (.getfield 34, 3) := by decide +kernel
theorem dL_act_146 : decode cL_act 146 = .ok (.arraylength, 1) := by decide +kernel
theorem dL_act_147 : decode cL_act 147 = .ok (.istore 7, 2) := by decide +kernel
theorem dL_act_149 : decode cL_act 149 = .ok (.iload 4, 2) := by decide +kernel
theorem dL_act_151 : decode cL_act 151 = .ok (.bipush 7, 2) := by decide +kernel
theorem dL_act_153 : decode cL_act 153 = .ok (.if_icmp .lt 15, 3) := by decide +kernel
theorem dL_act_156 : decode cL_act 156 = .ok (.iload 4, 2) := by decide +kernel
theorem dL_act_158 : decode cL_act 158 = .ok (.bipush 9, 2) := by decide +kernel
theorem dL_act_160 : decode cL_act 160 = .ok (.if_icmp .ge 113, 3) := by decide +kernel
theorem dL_act_163 : decode cL_act 163 = .ok (.iload 7, 2) := by decide +kernel
theorem dL_act_165 : decode cL_act 165 = .ok (.ifCond .ne 108, 3) := by decide +kernel
theorem dL_act_168 : decode cL_act 168 = .ok (.iload 7, 2) := by decide +kernel
theorem dL_act_170 : decode cL_act 170 = .ok (.bipush 6, 2) := by decide +kernel
theorem dL_act_172 : decode cL_act 172 = .ok (.if_icmp .ne 5, 3) := by decide +kernel
theorem dL_act_175 : decode cL_act 175 = .ok (.iconst 1, 1) := by decide +kernel
theorem dL_act_176 : decode cL_act 176 = .ok (.ireturn, 1) := by decide +kernel
theorem dL_act_177 : decode cL_act 177 = .ok (.iconst 2, 1) := by decide +kernel
theorem dL_act_178 : decode cL_act 178 = .ok (.newarray .int, 2) := by decide +kernel
theorem dL_act_180 : decode cL_act 180 = .ok (.dup, 1) := by decide +kernel
theorem dL_act_181 : decode cL_act 181 = .ok (.iconst 0, 1) := by decide +kernel
theorem dL_act_182 : decode cL_act 182 = .ok (.iconst 1, 1) := by decide +kernel
theorem dL_act_183 : decode cL_act 183 = .ok (.iload_n 2, 1) := by decide +kernel
theorem dL_act_184 : decode cL_act 184 = .ok (.iconst 3, 1) := by decide +kernel
theorem dL_act_185 : decode cL_act 185 = .ok (.ishr, 1) := by decide +kernel
theorem dL_act_186 : decode cL_act 186 = .ok (.bipush 60, 2) := by decide +kernel
theorem dL_act_188 : decode cL_act 188 = .ok (.invokestatic 15, 3) := by decide +kernel
theorem dL_act_191 : decode cL_act 191 = .ok (.iadd, 1) := by decide +kernel
theorem dL_act_192 : decode cL_act 192 = .ok (.iastore, 1) := by decide +kernel
theorem dL_act_193 : decode cL_act 193 = .ok (.dup, 1) := by decide +kernel
theorem dL_act_194 : decode cL_act 194 = .ok (.iconst 1, 1) := by decide +kernel
theorem dL_act_195 : decode cL_act 195 = .ok (.iload_n 2, 1) := by decide +kernel
theorem dL_act_196 : decode cL_act 196 = .ok (.iconst 3, 1) := by decide +kernel
theorem dL_act_197 : decode cL_act 197 = .ok (.invokestatic 15, 3) := by decide +kernel
theorem dL_act_200 : decode cL_act 200 = .ok (.ifCond .ne 14, 3) := by decide +kernel
theorem dL_act_203 : decode cL_act 203 = .ok (.iload_n 2, 1) := by decide +kernel
theorem dL_act_204 : decode cL_act 204 = .ok (.iconst 5, 1) := by decide +kernel
theorem dL_act_205 : decode cL_act 205 = .ok (.ishr, 1) := by decide +kernel
theorem dL_act_206 : decode cL_act 206 = .ok (.bipush 100, 2) := by decide +kernel
theorem dL_act_208 : decode cL_act 208 = .ok (.invokestatic 15, 3) := by decide +kernel
theorem dL_act_211 : decode cL_act 211 = .ok (.goto 14, 3) := by decide +kernel
theorem dL_act_214 : decode cL_act 214 = .ok (.bipush 60, 2) := by decide +kernel
theorem dL_act_216 : decode cL_act 216 = .ok (.iload_n 2, 1) := by decide +kernel
theorem dL_act_217 : decode cL_act 217 = .ok (.iconst 5, 1) := by decide +kernel
theorem dL_act_218 : decode cL_act 218 = .ok (.ishr, 1) := by decide +kernel
theorem dL_act_219 : decode cL_act 219 = .ok (.bipush 40, 2) := by decide +kernel
theorem dL_act_221 : decode cL_act 221 = .ok (.invokestatic 15, 3) := by decide +kernel
theorem dL_act_224 : decode cL_act 224 = .ok (.iadd, 1) := by decide +kernel
theorem dL_act_225 : decode cL_act 225 = .ok (.iastore, 1) := by decide +kernel
theorem dL_act_226 : decode cL_act 226 = .ok (.astore 8, 2) := by decide +kernel
theorem dL_act_228 : decode cL_act 228 = .ok (.aload 6, 2) := by decide +kernel
theorem dL_act_230 : decode cL_act 230 = .ok (.aload 6, 2) := by decide +kernel
theorem dL_act_232 : decode cL_act 232 = .ok (.getfield 34, 3) := by decide +kernel
theorem dL_act_235 : decode cL_act 235 = .ok (.aload 8, 2) := by decide +kernel
theorem dL_act_237 : decode cL_act 237 = .ok (.invokestatic 38, 3) := by decide +kernel
theorem dL_act_240 : decode cL_act 240 = .ok (.putfield 34, 3) := by decide +kernel
theorem dL_act_243 : decode cL_act 243 = .ok (.aload 6, 2) := by decide +kernel
theorem dL_act_245 : decode cL_act 245 = .ok (.invokevirtual 42, 3) := by decide +kernel
theorem dL_act_248 : decode cL_act 248 = .ok (.aload_n 0, 1) := by decide +kernel
theorem dL_act_249 : decode cL_act 249 = .ok (.iload 5, 2) := by decide +kernel
theorem dL_act_251 : decode cL_act 251 = .ok (.aload 8, 2) := by decide +kernel
theorem dL_act_253 : decode cL_act 253 = .ok (.iconst 0, 1) := by decide +kernel
theorem dL_act_254 : decode cL_act 254 = .ok (.iaload, 1) := by decide +kernel
theorem dL_act_255 : decode cL_act 255 = .ok (.aload 8, 2) := by decide +kernel
theorem dL_act_257 : decode cL_act 257 = .ok (.iconst 1, 1) := by decide +kernel
theorem dL_act_258 : decode cL_act 258 = .ok (.iaload, 1) := by decide +kernel
theorem dL_act_259 : decode cL_act 259 = .ok (.invokevirtual 45, 3) := by decide +kernel
theorem dL_act_262 : decode cL_act 262 = .ok (.iload 7, 2) := by decide +kernel
theorem dL_act_264 : decode cL_act 264 = .ok (.if_icmp .ne 7, 3) := by decide +kernel
theorem dL_act_267 : decode cL_act 267 = .ok (.iconst 1, 1) := by decide +kernel
theorem dL_act_268 : decode cL_act 268 = .ok (.goto 4, 3) := by decide +kernel
theorem dL_act_271 : decode cL_act 271 = .ok (.iconst 0, 1) := by decide +kernel
theorem dL_act_272 : decode cL_act 272 = .ok (.ireturn, 1) := by decide +kernel
theorem dL_act_273 : decode cL_act 273 = .ok (.aload_n 1, 1) := by decide +kernel
theorem dL_act_274 : decode cL_act 274 = .ok (.getfield 49, 3) := by decide +kernel
theorem dL_act_277 : decode cL_act 277 = .ok (.arraylength, 1) := by decide +kernel
theorem dL_act_278 : decode cL_act 278 = .ok (.istore 8, 2) := by decide +kernel
theorem dL_act_280 : decode cL_act 280 = .ok (.iload 4, 2) := by decide +kernel
theorem dL_act_282 : decode cL_act 282 = .ok (.tableswitch 540 7 17 #[58, 58, 129, 129, 176, 206, 206, 379, 379, 379, 493], 58) := by decide +kernel
theorem dL_act_340 : decode cL_act 340 = .ok (.aload 6, 2) := by decide +kernel
theorem dL_act_342 : decode cL_act 342 = .ok (.getfield 34, 3) := by decide +kernel
theorem dL_act_345 : decode cL_act 345 = .ok (.iload_n 2, 1) := by decide +kernel
theorem dL_act_346 : decode cL_act 346 = .ok (.iconst 4, 1) := by decide +kernel
theorem dL_act_347 : decode cL_act 347 = .ok (.ishr, 1) := by decide +kernel
theorem dL_act_348 : decode cL_act 348 = .ok (.iload 7, 2) := by decide +kernel
theorem dL_act_350 : decode cL_act 350 = .ok (.invokestatic 15, 3) := by decide +kernel
theorem dL_act_353 : decode cL_act 353 = .ok (.aaload, 1) := by decide +kernel
theorem dL_act_354 : decode cL_act 354 = .ok (.astore 9, 2) := by decide +kernel
theorem dL_act_356 : decode cL_act 356 = .ok (.aload 9, 2) := by decide +kernel
theorem dL_act_358 : decode cL_act 358 = .ok (.iconst 0, 1) := by decide +kernel
theorem dL_act_359 : decode cL_act 359 = .ok (.iaload, 1) := by decide +kernel
theorem dL_act_360 : decode cL_act 360 = .ok (.istore 10, 2) := by decide +kernel
theorem dL_act_362 : decode cL_act 362 = .ok (.aload 9, 2) := by decide +kernel
theorem dL_act_364 : decode cL_act 364 = .ok (.iconst 0, 1) := by decide +kernel
theorem dL_act_365 : decode cL_act 365 = .ok (.iconst 1, 1) := by decide +kernel
theorem dL_act_366 : decode cL_act 366 = .ok (.iload_n 2, 1) := by decide +kernel
theorem dL_act_367 : decode cL_act 367 = .ok (.bipush 6, 2) := by decide +kernel
theorem dL_act_369 : decode cL_act 369 = .ok (.ishr, 1) := by decide +kernel
theorem dL_act_370 : decode cL_act 370 = .ok (.bipush 60, 2) := by decide +kernel
theorem dL_act_372 : decode cL_act 372 = .ok (.invokestatic 15, 3) := by decide +kernel
theorem dL_act_375 : decode cL_act 375 = .ok (.iadd, 1) := by decide +kernel
theorem dL_act_376 : decode cL_act 376 = .ok (.iastore, 1) := by decide +kernel
theorem dL_act_377 : decode cL_act 377 = .ok (.aload 6, 2) := by decide +kernel
theorem dL_act_379 : decode cL_act 379 = .ok (.invokevirtual 42, 3) := by decide +kernel
theorem dL_act_382 : decode cL_act 382 = .ok (.aload_n 0, 1) := by decide +kernel
theorem dL_act_383 : decode cL_act 383 = .ok (.iload 5, 2) := by decide +kernel
theorem dL_act_385 : decode cL_act 385 = .ok (.iload_n 2, 1) := by decide +kernel
theorem dL_act_386 : decode cL_act 386 = .ok (.iconst 4, 1) := by decide +kernel
theorem dL_act_387 : decode cL_act 387 = .ok (.ishr, 1) := by decide +kernel
theorem dL_act_388 : decode cL_act 388 = .ok (.iload 7, 2) := by decide +kernel
theorem dL_act_390 : decode cL_act 390 = .ok (.invokestatic 15, 3) := by decide +kernel
theorem dL_act_393 : decode cL_act 393 = .ok (.aload 9, 2) := by decide +kernel
theorem dL_act_395 : decode cL_act 395 = .ok (.iconst 0, 1) := by decide +kernel
theorem dL_act_396 : decode cL_act 396 = .ok (.iaload, 1) := by decide +kernel
theorem dL_act_397 : decode cL_act 397 = .ok (.invokevirtual 52, 3) := by decide +kernel
theorem dL_act_400 : decode cL_act 400 = .ok (.iload 10, 2) := by decide +kernel
theorem dL_act_402 : decode cL_act 402 = .ok (.if_icmp .ne 7, 3) := by decide +kernel
theorem dL_act_405 : decode cL_act 405 = .ok (.iconst 1, 1) := by decide +kernel
theorem dL_act_406 : decode cL_act 406 = .ok (.goto 4, 3) := by decide +kernel
theorem dL_act_409 : decode cL_act 409 = .ok (.iconst 0, 1) := by decide +kernel
theorem dL_act_410 : decode cL_act 410 = .ok (.ireturn, 1) := by decide +kernel
theorem dL_act_411 : decode cL_act 411 = .ok (.aload 6, 2) := by decide +kernel
theorem dL_act_413 : decode cL_act 413 = .ok (.getfield 24, 3) := by decide +kernel
theorem dL_act_416 : decode cL_act 416 = .ok (.istore 11, 2) := by decide +kernel
theorem dL_act_418 : decode cL_act 418 = .ok (.aload 6, 2) := by decide +kernel
theorem dL_act_420 : decode cL_act 420 = .ok (.iload_n 2, 1) := by decide +kernel
theorem dL_act_421 : decode cL_act 421 = .ok (.iconst 3, 1) := by decide +kernel
theorem dL_act_422 : decode cL_act 422 = .ok (.ishr, 1) := by decide +kernel
theorem dL_act_423 : decode cL_act 423 = .ok (.bipush 91, 2) := by decide +kernel
theorem dL_act_425 : decode cL_act 425 = .ok (.invokestatic 15, 3) := by decide +kernel
theorem dL_act_428 : decode cL_act 428 = .ok (.putfield 24, 3) := by decide +kernel
theorem dL_act_431 : decode cL_act 431 = .ok (.aload 6, 2) := by decide +kernel
theorem dL_act_433 : decode cL_act 433 = .ok (.invokevirtual 42, 3) := by decide +kernel
theorem dL_act_436 : decode cL_act 436 = .ok (.aload_n 0, 1) := by decide +kernel
theorem dL_act_437 : decode cL_act 437 = .ok (.iload 5, 2) := by decide +kernel
theorem dL_act_439 : decode cL_act 439 = .ok (.aload 6, 2) := by decide +kernel
theorem dL_act_441 : decode cL_act 441 = .ok (.getfield 24, 3) := by decide +kernel
theorem dL_act_444 : decode cL_act 444 = .ok (.invokevirtual 55, 3) := by decide +kernel
theorem dL_act_447 : decode cL_act 447 = .ok (.iload 11, 2) := by decide +kernel
theorem dL_act_449 : decode cL_act 449 = .ok (.if_icmp .ne 7, 3) := by decide +kernel
theorem dL_act_452 : decode cL_act 452 = .ok (.iconst 1, 1) := by decide +kernel
theorem dL_act_453 : decode cL_act 453 = .ok (.goto 4, 3) := by decide +kernel
theorem dL_act_456 : decode cL_act 456 = .ok (.iconst 0, 1) := by decide +kernel
theorem dL_act_457 : decode cL_act 457 = .ok (.ireturn, 1) := by decide +kernel
theorem dL_act_458 : decode cL_act 458 = .ok (.aload 6, 2) := by decide +kernel
theorem dL_act_460 : decode cL_act 460 = .ok (.getfield 58, 3) := by decide +kernel
theorem dL_act_463 : decode cL_act 463 = .ok (.istore 12, 2) := by decide +kernel
theorem dL_act_465 : decode cL_act 465 = .ok (.aload 6, 2) := by decide +kernel
theorem dL_act_467 : decode cL_act 467 = .ok (.iconst 0, 1) := by decide +kernel
theorem dL_act_468 : decode cL_act 468 = .ok (.putfield 58, 3) := by decide +kernel
theorem dL_act_471 : decode cL_act 471 = .ok (.aload_n 0, 1) := by decide +kernel
theorem dL_act_472 : decode cL_act 472 = .ok (.iload 5, 2) := by decide +kernel
theorem dL_act_474 : decode cL_act 474 = .ok (.invokevirtual 61, 3) := by decide +kernel
theorem dL_act_477 : decode cL_act 477 = .ok (.iload 12, 2) := by decide +kernel
theorem dL_act_479 : decode cL_act 479 = .ok (.if_icmp .ne 7, 3) := by decide +kernel
theorem dL_act_482 : decode cL_act 482 = .ok (.iconst 1, 1) := by decide +kernel
theorem dL_act_483 : decode cL_act 483 = .ok (.goto 4, 3) := by decide +kernel
theorem dL_act_486 : decode cL_act 486 = .ok (.iconst 0, 1) := by decide +kernel
theorem dL_act_487 : decode cL_act 487 = .ok (.ireturn, 1) := by decide +kernel
theorem dL_act_488 : decode cL_act 488 = .ok (.iload 8, 2) := by decide +kernel
theorem dL_act_490 : decode cL_act 490 = .ok (.iconst 5, 1) := by decide +kernel
theorem dL_act_491 : decode cL_act 491 = .ok (.if_icmp .ne 5, 3) := by decide +kernel
theorem dL_act_494 : decode cL_act 494 = .ok (.iconst 1, 1) := by decide +kernel
theorem dL_act_495 : decode cL_act 495 = .ok (.ireturn, 1) := by decide +kernel
theorem dL_act_496 : decode cL_act 496 = .ok (.iconst 5, 1) := by decide +kernel
theorem dL_act_497 : decode cL_act 497 = .ok (.newarray .int, 2) := by decide +kernel
theorem dL_act_499 : decode cL_act 499 = .ok (.dup, 1) := by decide +kernel
theorem dL_act_500 : decode cL_act 500 = .ok (.iconst 0, 1) := by decide +kernel
theorem dL_act_501 : decode cL_act 501 = .ok (.iload_n 2, 1) := by decide +kernel
theorem dL_act_502 : decode cL_act 502 = .ok (.iconst 2, 1) := by decide +kernel
theorem dL_act_503 : decode cL_act 503 = .ok (.ishr, 1) := by decide +kernel
theorem dL_act_504 : decode cL_act 504 = .ok (.iload_n 2, 1) := by decide +kernel
theorem dL_act_505 : decode cL_act 505 = .ok (.iconst 2, 1) := by decide +kernel
theorem dL_act_506 : decode cL_act 506 = .ok (.invokestatic 15, 3) := by decide +kernel
theorem dL_act_509 : decode cL_act 509 = .ok (.ifCond .ne 9, 3) := by decide +kernel
theorem dL_act_512 : decode cL_act 512 = .ok (.sipush 501, 3) := by decide +kernel
theorem dL_act_515 : decode cL_act 515 = .ok (.goto 5, 3) := by decide +kernel
theorem dL_act_518 : decode cL_act 518 = .ok (.bipush 60, 2) := by decide +kernel
theorem dL_act_520 : decode cL_act 520 = .ok (.invokestatic 15, 3) := by decide +kernel
theorem dL_act_523 : decode cL_act 523 = .ok (.iastore, 1) := by decide +kernel
theorem dL_act_524 : decode cL_act 524 = .ok (.dup, 1) := by decide +kernel
theorem dL_act_525 : decode cL_act 525 = .ok (.iconst 1, 1) := by decide +kernel
theorem dL_act_526 : decode cL_act 526 = .ok (.iconst 1, 1) := by decide +kernel
theorem dL_act_527 : decode cL_act 527 = .ok (.iload_n 2, 1) := by decide +kernel
theorem dL_act_528 : decode cL_act 528 = .ok (.iconst 3, 1) := by decide +kernel
theorem dL_act_529 : decode cL_act 529 = .ok (.ishr, 1) := by decide +kernel
theorem dL_act_530 : decode cL_act 530 = .ok (.sipush 1000, 3) := by decide +kernel
theorem dL_act_533 : decode cL_act 533 = .ok (.invokestatic 15, 3) := by decide +kernel
theorem dL_act_536 : decode cL_act 536 = .ok (.iadd, 1) := by decide +kernel
theorem dL_act_537 : decode cL_act 537 = .ok (.iastore, 1) := by decide +kernel
theorem dL_act_538 : decode cL_act 538 = .ok (.dup, 1) := by decide +kernel
theorem dL_act_539 : decode cL_act 539 = .ok (.iconst 2, 1) := by decide +kernel
theorem dL_act_540 : decode cL_act 540 = .ok (.iload_n 2, 1) := by decide +kernel
theorem dL_act_541 : decode cL_act 541 = .ok (.iconst 5, 1) := by decide +kernel
theorem dL_act_542 : decode cL_act 542 = .ok (.ishr, 1) := by decide +kernel
theorem dL_act_543 : decode cL_act 543 = .ok (.bipush 20, 2) := by decide +kernel
theorem dL_act_545 : decode cL_act 545 = .ok (.invokestatic 15, 3) := by decide +kernel
theorem dL_act_548 : decode cL_act 548 = .ok (.iastore, 1) := by decide +kernel
theorem dL_act_549 : decode cL_act 549 = .ok (.dup, 1) := by decide +kernel
theorem dL_act_550 : decode cL_act 550 = .ok (.iconst 3, 1) := by decide +kernel
theorem dL_act_551 : decode cL_act 551 = .ok (.iload_n 2, 1) := by decide +kernel
theorem dL_act_552 : decode cL_act 552 = .ok (.iconst 3, 1) := by decide +kernel
theorem dL_act_553 : decode cL_act 553 = .ok (.invokestatic 15, 3) := by decide +kernel
theorem dL_act_556 : decode cL_act 556 = .ok (.ifCond .ne 15, 3) := by decide +kernel
theorem dL_act_559 : decode cL_act 559 = .ok (.iload_n 2, 1) := by decide +kernel
theorem dL_act_560 : decode cL_act 560 = .ok (.iconst 4, 1) := by decide +kernel
theorem dL_act_561 : decode cL_act 561 = .ok (.ishr, 1) := by decide +kernel
theorem dL_act_562 : decode cL_act 562 = .ok (.sipush 3001, 3) := by decide +kernel
theorem dL_act_565 : decode cL_act 565 = .ok (.invokestatic 15, 3) := by decide +kernel
theorem dL_act_568 : decode cL_act 568 = .ok (.goto 16, 3) := by decide +kernel
theorem dL_act_571 : decode cL_act 571 = .ok (.sipush 3000, 3) := by decide +kernel
theorem dL_act_574 : decode cL_act 574 = .ok (.iload_n 2, 1) := by decide +kernel
theorem dL_act_575 : decode cL_act 575 = .ok (.iconst 4, 1) := by decide +kernel
theorem dL_act_576 : decode cL_act 576 = .ok (.ishr, 1) := by decide +kernel
theorem dL_act_577 : decode cL_act 577 = .ok (.sipush 900, 3) := by decide +kernel
theorem dL_act_580 : decode cL_act 580 = .ok (.invokestatic 15, 3) := by decide +kernel
theorem dL_act_583 : decode cL_act 583 = .ok (.isub, 1) := by decide +kernel
theorem dL_act_584 : decode cL_act 584 = .ok (.iastore, 1) := by decide +kernel
theorem dL_act_585 : decode cL_act 585 = .ok (.dup, 1) := by decide +kernel
theorem dL_act_586 : decode cL_act 586 = .ok (.iconst 4, 1) := by decide +kernel
theorem dL_act_587 : decode cL_act 587 = .ok (.iconst 1, 1) := by decide +kernel
theorem dL_act_588 : decode cL_act 588 = .ok (.iload_n 2, 1) := by decide +kernel
theorem dL_act_589 : decode cL_act 589 = .ok (.bipush 6, 2) := by decide +kernel
theorem dL_act_591 : decode cL_act 591 = .ok (.ishr, 1) := by decide +kernel
theorem dL_act_592 : decode cL_act 592 = .ok (.iload_n 2, 1) := by decide +kernel
theorem dL_act_593 : decode cL_act 593 = .ok (.iconst 2, 1) := by decide +kernel
theorem dL_act_594 : decode cL_act 594 = .ok (.invokestatic 15, 3) := by decide +kernel
theorem dL_act_597 : decode cL_act 597 = .ok (.ifCond .ne 8, 3) := by decide +kernel
theorem dL_act_600 : decode cL_act 600 = .ok (.bipush 100, 2) := by decide +kernel
theorem dL_act_602 : decode cL_act 602 = .ok (.goto 4, 3) := by decide +kernel
theorem dL_act_605 : decode cL_act 605 = .ok (.iconst 5, 1) := by decide +kernel
theorem dL_act_606 : decode cL_act 606 = .ok (.invokestatic 15, 3) := by decide +kernel
theorem dL_act_609 : decode cL_act 609 = .ok (.iadd, 1) := by decide +kernel
theorem dL_act_610 : decode cL_act 610 = .ok (.iastore, 1) := by decide +kernel
theorem dL_act_611 : decode cL_act 611 = .ok (.astore 13, 2) := by decide +kernel
theorem dL_act_613 : decode cL_act 613 = .ok (.aload_n 1, 1) := by decide +kernel
theorem dL_act_614 : decode cL_act 614 = .ok (.aload_n 1, 1) := by decide +kernel
theorem dL_act_615 : decode cL_act 615 = .ok (.getfield 49, 3) := by decide +kernel
theorem dL_act_618 : decode cL_act 618 = .ok (.aload 13, 2) := by decide +kernel
theorem dL_act_620 : decode cL_act 620 = .ok (.invokestatic 38, 3) := by decide +kernel
theorem dL_act_623 : decode cL_act 623 = .ok (.putfield 49, 3) := by decide +kernel
theorem dL_act_626 : decode cL_act 626 = .ok (.aload_n 0, 1) := by decide +kernel
theorem dL_act_627 : decode cL_act 627 = .ok (.aload 13, 2) := by decide +kernel
theorem dL_act_629 : decode cL_act 629 = .ok (.iconst 0, 1) := by decide +kernel
theorem dL_act_630 : decode cL_act 630 = .ok (.iaload, 1) := by decide +kernel
theorem dL_act_631 : decode cL_act 631 = .ok (.aload 13, 2) := by decide +kernel
theorem dL_act_633 : decode cL_act 633 = .ok (.iconst 1, 1) := by decide +kernel
theorem dL_act_634 : decode cL_act 634 = .ok (.iaload, 1) := by decide +kernel
theorem dL_act_635 : decode cL_act 635 = .ok (.aload 13, 2) := by decide +kernel
theorem dL_act_637 : decode cL_act 637 = .ok (.iconst 2, 1) := by decide +kernel
theorem dL_act_638 : decode cL_act 638 = .ok (.iaload, 1) := by decide +kernel
theorem dL_act_639 : decode cL_act 639 = .ok (.aload 13, 2) := by decide +kernel
theorem dL_act_641 : decode cL_act 641 = .ok (.iconst 3, 1) := by decide +kernel
theorem dL_act_642 : decode cL_act 642 = .ok (.iaload, 1) := by decide +kernel
theorem dL_act_643 : decode cL_act 643 = .ok (.aload 13, 2) := by decide +kernel
theorem dL_act_645 : decode cL_act 645 = .ok (.iconst 4, 1) := by decide +kernel
theorem dL_act_646 : decode cL_act 646 = .ok (.iaload, 1) := by decide +kernel
theorem dL_act_647 : decode cL_act 647 = .ok (.invokevirtual 64, 3) := by decide +kernel
theorem dL_act_650 : decode cL_act 650 = .ok (.iload 8, 2) := by decide +kernel
theorem dL_act_652 : decode cL_act 652 = .ok (.if_icmp .ne 7, 3) := by decide +kernel
theorem dL_act_655 : decode cL_act 655 = .ok (.iconst 1, 1) := by decide +kernel
theorem dL_act_656 : decode cL_act 656 = .ok (.goto 4, 3) := by decide +kernel
theorem dL_act_659 : decode cL_act 659 = .ok (.iconst 0, 1) := by decide +kernel
theorem dL_act_660 : decode cL_act 660 = .ok (.ireturn, 1) := by decide +kernel
theorem dL_act_661 : decode cL_act 661 = .ok (.iload 8, 2) := by decide +kernel
theorem dL_act_663 : decode cL_act 663 = .ok (.ifCond .ne 5, 3) := by decide +kernel
theorem dL_act_666 : decode cL_act 666 = .ok (.iconst 1, 1) := by decide +kernel
theorem dL_act_667 : decode cL_act 667 = .ok (.ireturn, 1) := by decide +kernel
theorem dL_act_668 : decode cL_act 668 = .ok (.iload_n 2, 1) := by decide +kernel
theorem dL_act_669 : decode cL_act 669 = .ok (.iconst 4, 1) := by decide +kernel
theorem dL_act_670 : decode cL_act 670 = .ok (.ishr, 1) := by decide +kernel
theorem dL_act_671 : decode cL_act 671 = .ok (.iload 8, 2) := by decide +kernel
theorem dL_act_673 : decode cL_act 673 = .ok (.invokestatic 15, 3) := by decide +kernel
theorem dL_act_676 : decode cL_act 676 = .ok (.istore 14, 2) := by decide +kernel
theorem dL_act_678 : decode cL_act 678 = .ok (.aload 6, 2) := by decide +kernel
theorem dL_act_680 : decode cL_act 680 = .ok (.aload_n 1, 1) := by decide +kernel
theorem dL_act_681 : decode cL_act 681 = .ok (.getfield 49, 3) := by decide +kernel
theorem dL_act_684 : decode cL_act 684 = .ok (.iload 14, 2) := by decide +kernel
theorem dL_act_686 : decode cL_act 686 = .ok (.aaload, 1) := by decide +kernel
theorem dL_act_687 : decode cL_act 687 = .ok (.aload 6, 2) := by decide +kernel
theorem dL_act_689 : decode cL_act 689 = .ok (.getfield 24, 3) := by decide +kernel
theorem dL_act_692 : decode cL_act 692 = .ok (.aload 6, 2) := by decide +kernel
theorem dL_act_694 : decode cL_act 694 = .ok (.getfield 58, 3) := by decide +kernel
theorem dL_act_697 : decode cL_act 697 = .ok (.invokevirtual 68, 3) := by decide +kernel
theorem dL_act_700 : decode cL_act 700 = .ok (.istore 15, 2) := by decide +kernel
theorem dL_act_702 : decode cL_act 702 = .ok (.aload_n 1, 1) := by decide +kernel
theorem dL_act_703 : decode cL_act 703 = .ok (.dup, 1) := by decide +kernel
theorem dL_act_704 : decode cL_act 704 = .ok (.getfield 72, 3) := by decide +kernel
theorem dL_act_707 : decode cL_act 707 = .ok (.iconst 1, 1) := by decide +kernel
theorem dL_act_708 : decode cL_act 708 = .ok (.iadd, 1) := by decide +kernel
theorem dL_act_709 : decode cL_act 709 = .ok (.putfield 72, 3) := by decide +kernel
theorem dL_act_712 : decode cL_act 712 = .ok (.iload 15, 2) := by decide +kernel
theorem dL_act_714 : decode cL_act 714 = .ok (.ifCond .eq 27, 3) := by decide +kernel
theorem dL_act_717 : decode cL_act 717 = .ok (.aload 6, 2) := by decide +kernel
theorem dL_act_719 : decode cL_act 719 = .ok (.iload 14, 2) := by decide +kernel
theorem dL_act_721 : decode cL_act 721 = .ok (.putfield 75, 3) := by decide +kernel
theorem dL_act_724 : decode cL_act 724 = .ok (.aload 6, 2) := by decide +kernel
theorem dL_act_726 : decode cL_act 726 = .ok (.aload_n 1, 1) := by decide +kernel
theorem dL_act_727 : decode cL_act 727 = .ok (.getfield 49, 3) := by decide +kernel
theorem dL_act_730 : decode cL_act 730 = .ok (.iload 14, 2) := by decide +kernel
theorem dL_act_732 : decode cL_act 732 = .ok (.aaload, 1) := by decide +kernel
theorem dL_act_733 : decode cL_act 733 = .ok (.iconst 4, 1) := by decide +kernel
theorem dL_act_734 : decode cL_act 734 = .ok (.iaload, 1) := by decide +kernel
theorem dL_act_735 : decode cL_act 735 = .ok (.putfield 78, 3) := by decide +kernel
theorem dL_act_738 : decode cL_act 738 = .ok (.goto 18, 3) := by decide +kernel
theorem dL_act_741 : decode cL_act 741 = .ok (.aload 6, 2) := by decide +kernel
theorem dL_act_743 : decode cL_act 743 = .ok (.getfield 75, 3) := by decide +kernel
theorem dL_act_746 : decode cL_act 746 = .ok (.iload 14, 2) := by decide +kernel
theorem dL_act_748 : decode cL_act 748 = .ok (.if_icmp .ne 8, 3) := by decide +kernel
theorem dL_act_751 : decode cL_act 751 = .ok (.aload 6, 2) := by decide +kernel
theorem dL_act_753 : decode cL_act 753 = .ok (.invokevirtual 42, 3) := by decide +kernel
theorem dL_act_756 : decode cL_act 756 = .ok (.aload_n 0, 1) := by decide +kernel
theorem dL_act_757 : decode cL_act 757 = .ok (.iload 5, 2) := by decide +kernel
theorem dL_act_759 : decode cL_act 759 = .ok (.iload 14, 2) := by decide +kernel
theorem dL_act_761 : decode cL_act 761 = .ok (.invokevirtual 81, 3) := by decide +kernel
theorem dL_act_764 : decode cL_act 764 = .ok (.iload 15, 2) := by decide +kernel
theorem dL_act_766 : decode cL_act 766 = .ok (.if_icmp .ne 7, 3) := by decide +kernel
theorem dL_act_769 : decode cL_act 769 = .ok (.iconst 1, 1) := by decide +kernel
theorem dL_act_770 : decode cL_act 770 = .ok (.goto 4, 3) := by decide +kernel
theorem dL_act_773 : decode cL_act 773 = .ok (.iconst 0, 1) := by decide +kernel
theorem dL_act_774 : decode cL_act 774 = .ok (.ireturn, 1) := by decide +kernel
theorem dL_act_775 : decode cL_act 775 = .ok (.aload 6, 2) := by decide +kernel
theorem dL_act_777 : decode cL_act 777 = .ok (.getfield 75, 3) := by decide +kernel
theorem dL_act_780 : decode cL_act 780 = .ok (.ifCond .lt 11, 3) := by decide +kernel
theorem dL_act_783 : decode cL_act 783 = .ok (.iload_n 2, 1) := by decide +kernel
theorem dL_act_784 : decode cL_act 784 = .ok (.iconst 3, 1) := by decide +kernel
theorem dL_act_785 : decode cL_act 785 = .ok (.invokestatic 15, 3) := by decide +kernel
theorem dL_act_788 : decode cL_act 788 = .ok (.ifCond .le 5, 3) := by decide +kernel
theorem dL_act_791 : decode cL_act 791 = .ok (.iconst 1, 1) := by decide +kernel
theorem dL_act_792 : decode cL_act 792 = .ok (.ireturn, 1) := by decide +kernel
theorem dL_act_793 : decode cL_act 793 = .ok (.aload 6, 2) := by decide +kernel
theorem dL_act_795 : decode cL_act 795 = .ok (.getfield 78, 3) := by decide +kernel
theorem dL_act_798 : decode cL_act 798 = .ok (.istore 16, 2) := by decide +kernel
theorem dL_act_800 : decode cL_act 800 = .ok (.aload 6, 2) := by decide +kernel
theorem dL_act_802 : decode cL_act 802 = .ok (.invokevirtual 42, 3) := by decide +kernel
theorem dL_act_805 : decode cL_act 805 = .ok (.aload_n 0, 1) := by decide +kernel
theorem dL_act_806 : decode cL_act 806 = .ok (.iload 5, 2) := by decide +kernel
theorem dL_act_808 : decode cL_act 808 = .ok (.invokevirtual 85, 3) := by decide +kernel
theorem dL_act_811 : decode cL_act 811 = .ok (.iload 16, 2) := by decide +kernel
theorem dL_act_813 : decode cL_act 813 = .ok (.if_icmp .ne 7, 3) := by decide +kernel
theorem dL_act_816 : decode cL_act 816 = .ok (.iconst 1, 1) := by decide +kernel
theorem dL_act_817 : decode cL_act 817 = .ok (.goto 4, 3) := by decide +kernel
theorem dL_act_820 : decode cL_act 820 = .ok (.iconst 0, 1) := by decide +kernel
theorem dL_act_821 : decode cL_act 821 = .ok (.ireturn, 1) := by decide +kernel
theorem dL_act_822 : decode cL_act 822 = .ok (.iconst 1, 1) := by decide +kernel
theorem dL_act_823 : decode cL_act 823 = .ok (.iload_n 2, 1) := by decide +kernel
theorem dL_act_824 : decode cL_act 824 = .ok (.iconst 2, 1) := by decide +kernel
theorem dL_act_825 : decode cL_act 825 = .ok (.ishr, 1) := by decide +kernel
theorem dL_act_826 : decode cL_act 826 = .ok (.iload_n 2, 1) := by decide +kernel
theorem dL_act_827 : decode cL_act 827 = .ok (.iconst 4, 1) := by decide +kernel
theorem dL_act_828 : decode cL_act 828 = .ok (.invokestatic 15, 3) := by decide +kernel
theorem dL_act_831 : decode cL_act 831 = .ok (.ifCond .ne 8, 3) := by decide +kernel
theorem dL_act_834 : decode cL_act 834 = .ok (.bipush 100, 2) := by decide +kernel
theorem dL_act_836 : decode cL_act 836 = .ok (.goto 4, 3) := by decide +kernel
theorem dL_act_839 : decode cL_act 839 = .ok (.iconst 4, 1) := by decide +kernel
theorem dL_act_840 : decode cL_act 840 = .ok (.invokestatic 15, 3) := by decide +kernel
theorem dL_act_843 : decode cL_act 843 = .ok (.iadd, 1) := by decide +kernel
theorem dL_act_844 : decode cL_act 844 = .ok (.istore 17, 2) := by decide +kernel
theorem dL_act_846 : decode cL_act 846 = .ok (.iconst 0, 1) := by decide +kernel
theorem dL_act_847 : decode cL_act 847 = .ok (.istore 18, 2) := by decide +kernel
theorem dL_act_849 : decode cL_act 849 = .ok (.iload 18, 2) := by decide +kernel
theorem dL_act_851 : decode cL_act 851 = .ok (.iload 17, 2) := by decide +kernel
theorem dL_act_853 : decode cL_act 853 = .ok (.if_icmp .ge 13, 3) := by decide +kernel
theorem dL_act_856 : decode cL_act 856 = .ok (.aload_n 1, 1) := by decide +kernel
theorem dL_act_857 : decode cL_act 857 = .ok (.invokevirtual 88, 3) := by decide +kernel
theorem dL_act_860 : decode cL_act 860 = .ok (.iinc 18 1, 3) := by decide +kernel
theorem dL_act_863 : decode cL_act 863 = .ok (.goto (-14), 3) := by decide +kernel
theorem dL_act_866 : decode cL_act 866 = .ok (.aload_n 0, 1) := by decide +kernel
theorem dL_act_867 : decode cL_act 867 = .ok (.iload 17, 2) := by decide +kernel
theorem dL_act_869 : decode cL_act 869 = .ok (.invokevirtual 91, 3) := by decide +kernel
theorem dL_act_872 : decode cL_act 872 = .ok (.aload_n 1, 1) := by decide +kernel
theorem dL_act_873 : decode cL_act 873 = .ok (.invokevirtual 94, 3) := by decide +kernel
theorem dL_act_876 : decode cL_act 876 = .ok (.if_icmp .ne 7, 3) := by decide +kernel
theorem dL_act_879 : decode cL_act 879 = .ok (.iconst 1, 1) := by decide +kernel
theorem dL_act_880 : decode cL_act 880 = .ok (.goto 4, 3) := by decide +kernel
theorem dL_act_883 : decode cL_act 883 = .ok (.iconst 0, 1) := by decide +kernel
theorem dL_act_884 : decode cL_act 884 = .ok (.ireturn, 1) := by decide +kernel
theorem dL_build_0 : decode cL_build 0 = .ok (.new 10, 3) := by decide +kernel
theorem dL_build_3 : decode cL_build 3 = .ok (.dup, 1) := by decide +kernel
theorem dL_build_4 : decode cL_build 4 = .ok (.invokespecial 98, 3) := by decide +kernel
theorem dL_build_7 : decode cL_build 7 = .ok (.astore_n 2, 1) := by decide +kernel
theorem dL_build_8 : decode cL_build 8 = .ok (.bipush 20, 2) := by decide +kernel
theorem dL_build_10 : decode cL_build 10 = .ok (.aload_n 1, 1) := by decide +kernel
theorem dL_build_11 : decode cL_build 11 = .ok (.iconst 0, 1) := by decide +kernel
theorem dL_build_12 : decode cL_build 12 = .ok (.invokestatic 99, 3) := by decide +kernel
theorem dL_build_15 : decode cL_build 15 = .ok (.bipush 40, 2) := by decide +kernel
theorem dL_build_17 : decode cL_build 17 = .ok (.invokestatic 15, 3) := by decide +kernel
theorem dL_build_20 : decode cL_build 20 = .ok (.iadd, 1) := by decide +kernel
theorem dL_build_21 : decode cL_build 21 = .ok (.istore_n 3, 1) := by decide +kernel
theorem dL_build_22 : decode cL_build 22 = .ok (.iconst 0, 1) := by decide +kernel
theorem dL_build_23 : decode cL_build 23 = .ok (.istore 4, 2) := by decide +kernel
theorem dL_build_25 : decode cL_build 25 = .ok (.iload 4, 2) := by decide +kernel
theorem dL_build_27 : decode cL_build 27 = .ok (.iload_n 3, 1) := by decide +kernel
theorem dL_build_28 : decode cL_build 28 = .ok (.if_icmp .ge 43, 3) := by decide +kernel
theorem dL_build_31 : decode cL_build 31 = .ok (.aload_n 0, 1) := by decide +kernel
theorem dL_build_32 : decode cL_build 32 = .ok (.aload_n 2, 1) := by decide +kernel
theorem dL_build_33 : decode cL_build 33 = .ok (.aload_n 1, 1) := by decide +kernel
theorem dL_build_34 : decode cL_build 34 = .ok (.iload 4, 2) := by decide +kernel
theorem dL_build_36 : decode cL_build 36 = .ok (.bipush 16, 2) := by decide +kernel
theorem dL_build_38 : decode cL_build 38 = .ok (.irem, 1) := by decide +kernel
theorem dL_build_39 : decode cL_build 39 = .ok (.invokestatic 99, 3) := by decide +kernel
theorem dL_build_42 : decode cL_build 42 = .ok (.iload 4, 2) := by decide +kernel
theorem dL_build_44 : decode cL_build 44 = .ok (.bipush 16, 2) := by decide +kernel
theorem dL_build_46 : decode cL_build 46 = .ok (.idiv, 1) := by decide +kernel
theorem dL_build_47 : decode cL_build 47 = .ok (.iconst 3, 1) := by decide +kernel
theorem dL_build_48 : decode cL_build 48 = .ok (.imul, 1) := by decide +kernel
theorem dL_build_49 : decode cL_build 49 = .ok (.ishr, 1) := by decide +kernel
theorem dL_build_50 : decode cL_build 50 = .ok (.sipush 521, 3) := by decide +kernel
theorem dL_build_53 : decode cL_build 53 = .ok (.iload 4, 2) := by decide +kernel
theorem dL_build_55 : decode cL_build 55 = .ok (.imul, 1) := by decide +kernel
theorem dL_build_56 : decode cL_build 56 = .ok (.iadd, 1) := by decide +kernel
theorem dL_build_57 : decode cL_build 57 = .ok (.invokestatic 103, 3) := by decide +kernel
theorem dL_build_60 : decode cL_build 60 = .ok (.ifCond .ne 5, 3) := by decide +kernel
theorem dL_build_63 : decode cL_build 63 = .ok (.aconst_null, 1) := by decide +kernel
theorem dL_build_64 : decode cL_build 64 = .ok (.areturn, 1) := by decide +kernel
theorem dL_build_65 : decode cL_build 65 = .ok (.iinc 4 1, 3) := by decide +kernel
theorem dL_build_68 : decode cL_build 68 = .ok (.goto (-43), 3) := by decide +kernel
theorem dL_build_71 : decode cL_build 71 = .ok (.aload_n 2, 1) := by decide +kernel
theorem dL_build_72 : decode cL_build 72 = .ok (.areturn, 1) := by decide +kernel
theorem dL_law_0 : decode cL_law 0 = .ok (.new 29, 3) := by decide +kernel
theorem dL_law_3 : decode cL_law 3 = .ok (.dup, 1) := by decide +kernel
theorem dL_law_4 : decode cL_law 4 = .ok (.invokespecial 107, 3) := by decide +kernel
theorem dL_law_7 : decode cL_law 7 = .ok (.astore_n 1, 1) := by decide +kernel
theorem dL_law_8 : decode cL_law 8 = .ok (.aload_n 1, 1) := by decide +kernel
theorem dL_law_9 : decode cL_law 9 = .ok (.aload_n 0, 1) := by decide +kernel
theorem dL_law_10 : decode cL_law 10 = .ok (.invokestatic 108, 3) := by decide +kernel
theorem dL_law_13 : decode cL_law 13 = .ok (.astore_n 2, 1) := by decide +kernel
theorem dL_law_14 : decode cL_law 14 = .ok (.aload_n 2, 1) := by decide +kernel
theorem dL_law_15 : decode cL_law 15 = .ok (.ifnonnull 5, 3) := by decide +kernel
theorem dL_law_18 : decode cL_law 18 = .ok (.iconst 0, 1) := by decide +kernel
theorem dL_law_19 : decode cL_law 19 = .ok (.ireturn, 1) := by decide +kernel
theorem dL_law_20 : decode cL_law 20 = .ok (.iconst 0, 1) := by decide +kernel
theorem dL_law_21 : decode cL_law 21 = .ok (.istore_n 3, 1) := by decide +kernel
theorem dL_law_22 : decode cL_law 22 = .ok (.iload_n 3, 1) := by decide +kernel
theorem dL_law_23 : decode cL_law 23 = .ok (.bipush 8, 2) := by decide +kernel
theorem dL_law_25 : decode cL_law 25 = .ok (.if_icmp .ge 811, 3) := by decide +kernel
theorem dL_law_28 : decode cL_law 28 = .ok (.aload_n 0, 1) := by decide +kernel
theorem dL_law_29 : decode cL_law 29 = .ok (.iload_n 3, 1) := by decide +kernel
theorem dL_law_30 : decode cL_law 30 = .ok (.invokestatic 99, 3) := by decide +kernel
theorem dL_law_33 : decode cL_law 33 = .ok (.sipush 521, 3) := by decide +kernel
theorem dL_law_36 : decode cL_law 36 = .ok (.iload_n 3, 1) := by decide +kernel
theorem dL_law_37 : decode cL_law 37 = .ok (.imul, 1) := by decide +kernel
theorem dL_law_38 : decode cL_law 38 = .ok (.iadd, 1) := by decide +kernel
theorem dL_law_39 : decode cL_law 39 = .ok (.istore 4, 2) := by decide +kernel
theorem dL_law_41 : decode cL_law 41 = .ok (.iconst 0, 1) := by decide +kernel
theorem dL_law_42 : decode cL_law 42 = .ok (.istore 5, 2) := by decide +kernel
theorem dL_law_44 : decode cL_law 44 = .ok (.iload 5, 2) := by decide +kernel
theorem dL_law_46 : decode cL_law 46 = .ok (.iconst 2, 1) := by decide +kernel
theorem dL_law_47 : decode cL_law 47 = .ok (.if_icmp .ge 33, 3) := by decide +kernel
theorem dL_law_50 : decode cL_law 50 = .ok (.aload_n 1, 1) := by decide +kernel
theorem dL_law_51 : decode cL_law 51 = .ok (.aload_n 2, 1) := by decide +kernel
theorem dL_law_52 : decode cL_law 52 = .ok (.iload 4, 2) := by decide +kernel
theorem dL_law_54 : decode cL_law 54 = .ok (.iconst 2, 1) := by decide +kernel
theorem dL_law_55 : decode cL_law 55 = .ok (.iload 5, 2) := by decide +kernel
theorem dL_law_57 : decode cL_law 57 = .ok (.imul, 1) := by decide +kernel
theorem dL_law_58 : decode cL_law 58 = .ok (.ishr, 1) := by decide +kernel
theorem dL_law_59 : decode cL_law 59 = .ok (.sipush 401, 3) := by decide +kernel
theorem dL_law_62 : decode cL_law 62 = .ok (.iload 5, 2) := by decide +kernel
theorem dL_law_64 : decode cL_law 64 = .ok (.imul, 1) := by decide +kernel
theorem dL_law_65 : decode cL_law 65 = .ok (.iadd, 1) := by decide +kernel
theorem dL_law_66 : decode cL_law 66 = .ok (.invokestatic 103, 3) := by decide +kernel
theorem dL_law_69 : decode cL_law 69 = .ok (.ifCond .ne 5, 3) := by decide +kernel
theorem dL_law_72 : decode cL_law 72 = .ok (.iconst 0, 1) := by decide +kernel
theorem dL_law_73 : decode cL_law 73 = .ok (.ireturn, 1) := by decide +kernel
theorem dL_law_74 : decode cL_law 74 = .ok (.iinc 5 1, 3) := by decide +kernel
theorem dL_law_77 : decode cL_law 77 = .ok (.goto (-33), 3) := by decide +kernel
theorem dL_law_80 : decode cL_law 80 = .ok (.aload_n 1, 1) := by decide +kernel
theorem dL_law_81 : decode cL_law 81 = .ok (.invokevirtual 112, 3) := by decide +kernel
theorem dL_law_84 : decode cL_law 84 = .ok (.istore 5, 2) := by decide +kernel
theorem dL_law_86 : decode cL_law 86 = .ok (.iconst 0, 1) := by decide +kernel
theorem dL_law_87 : decode cL_law 87 = .ok (.istore 6, 2) := by decide +kernel
theorem dL_law_89 : decode cL_law 89 = .ok (.iconst 0, 1) := by decide +kernel
theorem dL_law_90 : decode cL_law 90 = .ok (.istore 7, 2) := by decide +kernel
theorem dL_law_92 : decode cL_law 92 = .ok (.iconst 0, 1) := by decide +kernel
theorem dL_law_93 : decode cL_law 93 = .ok (.istore 8, 2) := by decide +kernel
theorem dL_law_95 : decode cL_law 95 = .ok (.iload 8, 2) := by decide +kernel
theorem dL_law_97 : decode cL_law 97 = .ok (.iload 5, 2) := by decide +kernel
theorem dL_law_99 : decode cL_law 99 = .ok (.if_icmp .ge 586, 3) := by decide +kernel
theorem dL_law_102 : decode cL_law 102 = .ok (.iconst 1, 1) := by decide +kernel
theorem dL_law_103 : decode cL_law 103 = .ok (.iload 4, 2) := by decide +kernel
theorem dL_law_105 : decode cL_law 105 = .ok (.iconst 2, 1) := by decide +kernel
theorem dL_law_106 : decode cL_law 106 = .ok (.ishr, 1) := by decide +kernel
theorem dL_law_107 : decode cL_law 107 = .ok (.bipush 37, 2) := by decide +kernel
theorem dL_law_109 : decode cL_law 109 = .ok (.iload 8, 2) := by decide +kernel
theorem dL_law_111 : decode cL_law 111 = .ok (.imul, 1) := by decide +kernel
theorem dL_law_112 : decode cL_law 112 = .ok (.iadd, 1) := by decide +kernel
theorem dL_law_113 : decode cL_law 113 = .ok (.sipush 1000, 3) := by decide +kernel
theorem dL_law_116 : decode cL_law 116 = .ok (.invokestatic 15, 3) := by decide +kernel
theorem dL_law_119 : decode cL_law 119 = .ok (.iadd, 1) := by decide +kernel
theorem dL_law_120 : decode cL_law 120 = .ok (.istore 9, 2) := by decide +kernel
theorem dL_law_122 : decode cL_law 122 = .ok (.aload_n 1, 1) := by decide +kernel
theorem dL_law_123 : decode cL_law 123 = .ok (.iload 8, 2) := by decide +kernel
theorem dL_law_125 : decode cL_law 125 = .ok (.invokevirtual 114, 3) := by decide +kernel
theorem dL_law_128 : decode cL_law 128 = .ok (.istore 10, 2) := by decide +kernel
theorem dL_law_130 : decode cL_law 130 = .ok (.aload_n 1, 1) := by decide +kernel
theorem dL_law_131 : decode cL_law 131 = .ok (.iload 8, 2) := by decide +kernel
theorem dL_law_133 : decode cL_law 133 = .ok (.invokevirtual 117, 3) := by decide +kernel
theorem dL_law_136 : decode cL_law 136 = .ok (.istore 11, 2) := by decide +kernel
theorem dL_law_138 : decode cL_law 138 = .ok (.iload 10, 2) := by decide +kernel
theorem dL_law_140 : decode cL_law 140 = .ok (.ifCond .lt 67, 3) := by decide +kernel
theorem dL_law_143 : decode cL_law 143 = .ok (.iload 10, 2) := by decide +kernel
theorem dL_law_145 : decode cL_law 145 = .ok (.bipush 100, 2) := by decide +kernel
theorem dL_law_147 : decode cL_law 147 = .ok (.if_icmp .gt 60, 3) := by decide +kernel
theorem dL_law_150 : decode cL_law 150 = .ok (.iload 11, 2) := by decide +kernel
theorem dL_law_152 : decode cL_law 152 = .ok (.ifCond .lt 55, 3) := by decide +kernel
theorem dL_law_155 : decode cL_law 155 = .ok (.iload 11, 2) := by decide +kernel
theorem dL_law_157 : decode cL_law 157 = .ok (.bipush 90, 2) := by decide +kernel
theorem dL_law_159 : decode cL_law 159 = .ok (.if_icmp .gt 48, 3) := by decide +kernel
theorem dL_law_162 : decode cL_law 162 = .ok (.aload_n 1, 1) := by decide +kernel
theorem dL_law_163 : decode cL_law 163 = .ok (.iload 8, 2) := by decide +kernel
theorem dL_law_165 : decode cL_law 165 = .ok (.invokevirtual 120, 3) := by decide +kernel
theorem dL_law_168 : decode cL_law 168 = .ok (.bipush 6, 2) := by decide +kernel
theorem dL_law_170 : decode cL_law 170 = .ok (.if_icmp .gt 37, 3) := by decide +kernel
theorem dL_law_173 : decode cL_law 173 = .ok (.aload_n 1, 1) := by decide +kernel
theorem dL_law_174 : decode cL_law 174 = .ok (.iload 8, 2) := by decide +kernel
theorem dL_law_176 : decode cL_law 176 = .ok (.invokevirtual 123, 3) := by decide +kernel
theorem dL_law_179 : decode cL_law 179 = .ok (.aload_n 1, 1) := by decide +kernel
theorem dL_law_180 : decode cL_law 180 = .ok (.iload 8, 2) := by decide +kernel
theorem dL_law_182 : decode cL_law 182 = .ok (.invokevirtual 127, 3) := by decide +kernel
theorem dL_law_185 : decode cL_law 185 = .ok (.ifCond .le 7, 3) := by decide +kernel
theorem dL_law_188 : decode cL_law 188 = .ok (.iconst 1, 1) := by decide +kernel
theorem dL_law_189 : decode cL_law 189 = .ok (.goto 4, 3) := by decide +kernel
theorem dL_law_192 : decode cL_law 192 = .ok (.iconst 0, 1) := by decide +kernel
theorem dL_law_193 : decode cL_law 193 = .ok (.if_icmp .ne 14, 3) := by decide +kernel
theorem dL_law_196 : decode cL_law 196 = .ok (.aload_n 1, 1) := by decide +kernel
theorem dL_law_197 : decode cL_law 197 = .ok (.iload 8, 2) := by decide +kernel
theorem dL_law_199 : decode cL_law 199 = .ok (.invokevirtual 127, 3) := by decide +kernel
theorem dL_law_202 : decode cL_law 202 = .ok (.bipush 100, 2) := by decide +kernel
theorem dL_law_204 : decode cL_law 204 = .ok (.if_icmp .le 5, 3) := by decide +kernel
theorem dL_law_207 : decode cL_law 207 = .ok (.iconst 0, 1) := by decide +kernel
theorem dL_law_208 : decode cL_law 208 = .ok (.ireturn, 1) := by decide +kernel
theorem dL_law_209 : decode cL_law 209 = .ok (.iload 6, 2) := by decide +kernel
theorem dL_law_211 : decode cL_law 211 = .ok (.aload_n 1, 1) := by decide +kernel
theorem dL_law_212 : decode cL_law 212 = .ok (.iload 8, 2) := by decide +kernel
theorem dL_law_214 : decode cL_law 214 = .ok (.invokevirtual 123, 3) := by decide +kernel
theorem dL_law_217 : decode cL_law 217 = .ok (.ifCond .eq 7, 3) := by decide +kernel
theorem dL_law_220 : decode cL_law 220 = .ok (.iconst 1, 1) := by decide +kernel
theorem dL_law_221 : decode cL_law 221 = .ok (.goto 4, 3) := by decide +kernel
theorem dL_law_224 : decode cL_law 224 = .ok (.iconst 0, 1) := by decide +kernel
theorem dL_law_225 : decode cL_law 225 = .ok (.iadd, 1) := by decide +kernel
theorem dL_law_226 : decode cL_law 226 = .ok (.istore 6, 2) := by decide +kernel
theorem dL_law_228 : decode cL_law 228 = .ok (.iload 7, 2) := by decide +kernel
theorem dL_law_230 : decode cL_law 230 = .ok (.iload 11, 2) := by decide +kernel
theorem dL_law_232 : decode cL_law 232 = .ok (.iadd, 1) := by decide +kernel
theorem dL_law_233 : decode cL_law 233 = .ok (.istore 7, 2) := by decide +kernel
theorem dL_law_235 : decode cL_law 235 = .ok (.new 29, 3) := by decide +kernel
theorem dL_law_238 : decode cL_law 238 = .ok (.dup, 1) := by decide +kernel
theorem dL_law_239 : decode cL_law 239 = .ok (.invokespecial 107, 3) := by decide +kernel
theorem dL_law_242 : decode cL_law 242 = .ok (.astore 12, 2) := by decide +kernel
theorem dL_law_244 : decode cL_law 244 = .ok (.aload_n 1, 1) := by decide +kernel
theorem dL_law_245 : decode cL_law 245 = .ok (.iload 8, 2) := by decide +kernel
theorem dL_law_247 : decode cL_law 247 = .ok (.invokevirtual 120, 3) := by decide +kernel
theorem dL_law_250 : decode cL_law 250 = .ok (.istore 13, 2) := by decide +kernel
theorem dL_law_252 : decode cL_law 252 = .ok (.iconst 0, 1) := by decide +kernel
theorem dL_law_253 : decode cL_law 253 = .ok (.istore 14, 2) := by decide +kernel
theorem dL_law_255 : decode cL_law 255 = .ok (.iconst 0, 1) := by decide +kernel
theorem dL_law_256 : decode cL_law 256 = .ok (.istore 15, 2) := by decide +kernel
theorem dL_law_258 : decode cL_law 258 = .ok (.iconst (-1), 1) := by decide +kernel
theorem dL_law_259 : decode cL_law 259 = .ok (.istore 16, 2) := by decide +kernel
theorem dL_law_261 : decode cL_law 261 = .ok (.iconst (-1), 1) := by decide +kernel
theorem dL_law_262 : decode cL_law 262 = .ok (.istore 17, 2) := by decide +kernel
theorem dL_law_264 : decode cL_law 264 = .ok (.iconst 0, 1) := by decide +kernel
theorem dL_law_265 : decode cL_law 265 = .ok (.istore 18, 2) := by decide +kernel
theorem dL_law_267 : decode cL_law 267 = .ok (.bipush 6, 2) := by decide +kernel
theorem dL_law_269 : decode cL_law 269 = .ok (.iconst 1, 1) := by decide +kernel
theorem dL_law_270 : decode cL_law 270 = .ok (.iload 4, 2) := by decide +kernel
theorem dL_law_272 : decode cL_law 272 = .ok (.iconst 5, 1) := by decide +kernel
theorem dL_law_273 : decode cL_law 273 = .ok (.ishr, 1) := by decide +kernel
theorem dL_law_274 : decode cL_law 274 = .ok (.sipush 500, 3) := by decide +kernel
theorem dL_law_277 : decode cL_law 277 = .ok (.invokestatic 15, 3) := by decide +kernel
theorem dL_law_280 : decode cL_law 280 = .ok (.iadd, 1) := by decide +kernel
theorem dL_law_281 : decode cL_law 281 = .ok (.imul, 1) := by decide +kernel
theorem dL_law_282 : decode cL_law 282 = .ok (.istore 19, 2) := by decide +kernel
theorem dL_law_284 : decode cL_law 284 = .ok (.iload 19, 2) := by decide +kernel
theorem dL_law_286 : decode cL_law 286 = .ok (.sipush 3000, 3) := by decide +kernel
theorem dL_law_289 : decode cL_law 289 = .ok (.if_icmp .le 8, 3) := by decide +kernel
theorem dL_law_292 : decode cL_law 292 = .ok (.sipush 3000, 3) := by decide +kernel
theorem dL_law_295 : decode cL_law 295 = .ok (.istore 19, 2) := by decide +kernel
theorem dL_law_297 : decode cL_law 297 = .ok (.iconst 0, 1) := by decide +kernel
theorem dL_law_298 : decode cL_law 298 = .ok (.istore 20, 2) := by decide +kernel
theorem dL_law_300 : decode cL_law 300 = .ok (.iload 20, 2) := by decide +kernel
theorem dL_law_302 : decode cL_law 302 = .ok (.iload 13, 2) := by decide +kernel
theorem dL_law_304 : decode cL_law 304 = .ok (.if_icmp .ge 221, 3) := by decide +kernel
theorem dL_law_307 : decode cL_law 307 = .ok (.aload 12, 2) := by decide +kernel
theorem dL_law_309 : decode cL_law 309 = .ok (.iload 11, 2) := by decide +kernel
theorem dL_law_311 : decode cL_law 311 = .ok (.invokevirtual 28, 3) := by decide +kernel
theorem dL_law_314 : decode cL_law 314 = .ok (.pop, 1) := by decide +kernel
theorem dL_law_315 : decode cL_law 315 = .ok (.aload 12, 2) := by decide +kernel
theorem dL_law_317 : decode cL_law 317 = .ok (.iload 20, 2) := by decide +kernel
theorem dL_law_319 : decode cL_law 319 = .ok (.aload_n 1, 1) := by decide +kernel
theorem dL_law_320 : decode cL_law 320 = .ok (.iload 8, 2) := by decide +kernel
theorem dL_law_322 : decode cL_law 322 = .ok (.iload 20, 2) := by decide +kernel
theorem dL_law_324 : decode cL_law 324 = .ok (.invokevirtual 130, 3) := by decide +kernel
theorem dL_law_327 : decode cL_law 327 = .ok (.aload_n 1, 1) := by decide +kernel
theorem dL_law_328 : decode cL_law 328 = .ok (.iload 8, 2) := by decide +kernel
theorem dL_law_330 : decode cL_law 330 = .ok (.iload 20, 2) := by decide +kernel
theorem dL_law_332 : decode cL_law 332 = .ok (.invokevirtual 133, 3) := by decide +kernel
theorem dL_law_335 : decode cL_law 335 = .ok (.invokevirtual 45, 3) := by decide +kernel
theorem dL_law_338 : decode cL_law 338 = .ok (.ifCond .eq 5, 3) := by decide +kernel
theorem dL_law_341 : decode cL_law 341 = .ok (.iconst 0, 1) := by decide +kernel
theorem dL_law_342 : decode cL_law 342 = .ok (.ireturn, 1) := by decide +kernel
theorem dL_law_343 : decode cL_law 343 = .ok (.iload 14, 2) := by decide +kernel
theorem dL_law_345 : decode cL_law 345 = .ok (.aload 12, 2) := by decide +kernel
theorem dL_law_347 : decode cL_law 347 = .ok (.iload 20, 2) := by decide +kernel
theorem dL_law_349 : decode cL_law 349 = .ok (.iload 9, 2) := by decide +kernel
theorem dL_law_351 : decode cL_law 351 = .ok (.invokevirtual 136, 3) := by decide +kernel
theorem dL_law_354 : decode cL_law 354 = .ok (.iadd, 1) := by decide +kernel
theorem dL_law_355 : decode cL_law 355 = .ok (.istore 14, 2) := by decide +kernel
theorem dL_law_357 : decode cL_law 357 = .ok (.iload 15, 2) := by decide +kernel
theorem dL_law_359 : decode cL_law 359 = .ok (.aload 12, 2) := by decide +kernel
theorem dL_law_361 : decode cL_law 361 = .ok (.iload 20, 2) := by decide +kernel
theorem dL_law_363 : decode cL_law 363 = .ok (.iload 9, 2) := by decide +kernel
theorem dL_law_365 : decode cL_law 365 = .ok (.iconst 1, 1) := by decide +kernel
theorem dL_law_366 : decode cL_law 366 = .ok (.iload 9, 2) := by decide +kernel
theorem dL_law_368 : decode cL_law 368 = .ok (.iconst 2, 1) := by decide +kernel
theorem dL_law_369 : decode cL_law 369 = .ok (.idiv, 1) := by decide +kernel
theorem dL_law_370 : decode cL_law 370 = .ok (.iadd, 1) := by decide +kernel
theorem dL_law_371 : decode cL_law 371 = .ok (.invokevirtual 139, 3) := by decide +kernel
theorem dL_law_374 : decode cL_law 374 = .ok (.iadd, 1) := by decide +kernel
theorem dL_law_375 : decode cL_law 375 = .ok (.istore 15, 2) := by decide +kernel
theorem dL_law_377 : decode cL_law 377 = .ok (.iload 18, 2) := by decide +kernel
theorem dL_law_379 : decode cL_law 379 = .ok (.aload 12, 2) := by decide +kernel
theorem dL_law_381 : decode cL_law 381 = .ok (.iload 20, 2) := by decide +kernel
theorem dL_law_383 : decode cL_law 383 = .ok (.iload 9, 2) := by decide +kernel
theorem dL_law_385 : decode cL_law 385 = .ok (.iload 19, 2) := by decide +kernel
theorem dL_law_387 : decode cL_law 387 = .ok (.invokevirtual 142, 3) := by decide +kernel
theorem dL_law_390 : decode cL_law 390 = .ok (.iadd, 1) := by decide +kernel
theorem dL_law_391 : decode cL_law 391 = .ok (.istore 18, 2) := by decide +kernel
theorem dL_law_393 : decode cL_law 393 = .ok (.aload 12, 2) := by decide +kernel
theorem dL_law_395 : decode cL_law 395 = .ok (.iload 20, 2) := by decide +kernel
theorem dL_law_397 : decode cL_law 397 = .ok (.iload 9, 2) := by decide +kernel
theorem dL_law_399 : decode cL_law 399 = .ok (.invokevirtual 145, 3) := by decide +kernel
theorem dL_law_402 : decode cL_law 402 = .ok (.ifCond .lt 33, 3) := by decide +kernel
theorem dL_law_405 : decode cL_law 405 = .ok (.iload 16, 2) := by decide +kernel
theorem dL_law_407 : decode cL_law 407 = .ok (.ifCond .lt 17, 3) := by decide +kernel
theorem dL_law_410 : decode cL_law 410 = .ok (.aload 12, 2) := by decide +kernel
theorem dL_law_412 : decode cL_law 412 = .ok (.iload 20, 2) := by decide +kernel
theorem dL_law_414 : decode cL_law 414 = .ok (.iload 9, 2) := by decide +kernel
theorem dL_law_416 : decode cL_law 416 = .ok (.invokevirtual 145, 3) := by decide +kernel
theorem dL_law_419 : decode cL_law 419 = .ok (.iload 16, 2) := by decide +kernel
theorem dL_law_421 : decode cL_law 421 = .ok (.if_icmp .ge 14, 3) := by decide +kernel
theorem dL_law_424 : decode cL_law 424 = .ok (.aload 12, 2) := by decide +kernel
theorem dL_law_426 : decode cL_law 426 = .ok (.iload 20, 2) := by decide +kernel
theorem dL_law_428 : decode cL_law 428 = .ok (.iload 9, 2) := by decide +kernel
theorem dL_law_430 : decode cL_law 430 = .ok (.invokevirtual 145, 3) := by decide +kernel
theorem dL_law_433 : decode cL_law 433 = .ok (.istore 16, 2) := by decide +kernel
theorem dL_law_435 : decode cL_law 435 = .ok (.iload 17, 2) := by decide +kernel
theorem dL_law_437 : decode cL_law 437 = .ok (.aload 12, 2) := by decide +kernel
theorem dL_law_439 : decode cL_law 439 = .ok (.iload 20, 2) := by decide +kernel
theorem dL_law_441 : decode cL_law 441 = .ok (.iload 9, 2) := by decide +kernel
theorem dL_law_443 : decode cL_law 443 = .ok (.invokevirtual 148, 3) := by decide +kernel
theorem dL_law_446 : decode cL_law 446 = .ok (.invokestatic 151, 3) := by decide +kernel
theorem dL_law_449 : decode cL_law 449 = .ok (.istore 17, 2) := by decide +kernel
theorem dL_law_451 : decode cL_law 451 = .ok (.aload_n 1, 1) := by decide +kernel
theorem dL_law_452 : decode cL_law 452 = .ok (.iload 8, 2) := by decide +kernel
theorem dL_law_454 : decode cL_law 454 = .ok (.iload 20, 2) := by decide +kernel
theorem dL_law_456 : decode cL_law 456 = .ok (.invokevirtual 133, 3) := by decide +kernel
theorem dL_law_459 : decode cL_law 459 = .ok (.aload_n 2, 1) := by decide +kernel
theorem dL_law_460 : decode cL_law 460 = .ok (.getfield 9, 3) := by decide +kernel
theorem dL_law_463 : decode cL_law 463 = .ok (.iload 8, 2) := by decide +kernel
theorem dL_law_465 : decode cL_law 465 = .ok (.aaload, 1) := by decide +kernel
theorem dL_law_466 : decode cL_law 466 = .ok (.getfield 34, 3) := by decide +kernel
theorem dL_law_469 : decode cL_law 469 = .ok (.iload 20, 2) := by decide +kernel
theorem dL_law_471 : decode cL_law 471 = .ok (.aaload, 1) := by decide +kernel
theorem dL_law_472 : decode cL_law 472 = .ok (.iconst 1, 1) := by decide +kernel
theorem dL_law_473 : decode cL_law 473 = .ok (.iaload, 1) := by decide +kernel
theorem dL_law_474 : decode cL_law 474 = .ok (.if_icmp .gt 43, 3) := by decide +kernel
theorem dL_law_477 : decode cL_law 477 = .ok (.aload_n 1, 1) := by decide +kernel
theorem dL_law_478 : decode cL_law 478 = .ok (.iload 8, 2) := by decide +kernel
theorem dL_law_480 : decode cL_law 480 = .ok (.iload 20, 2) := by decide +kernel
theorem dL_law_482 : decode cL_law 482 = .ok (.invokevirtual 133, 3) := by decide +kernel
theorem dL_law_485 : decode cL_law 485 = .ok (.aload_n 2, 1) := by decide +kernel
theorem dL_law_486 : decode cL_law 486 = .ok (.getfield 9, 3) := by decide +kernel
theorem dL_law_489 : decode cL_law 489 = .ok (.iload 8, 2) := by decide +kernel
theorem dL_law_491 : decode cL_law 491 = .ok (.aaload, 1) := by decide +kernel
theorem dL_law_492 : decode cL_law 492 = .ok (.getfield 34, 3) := by decide +kernel
theorem dL_law_495 : decode cL_law 495 = .ok (.iload 20, 2) := by decide +kernel
theorem dL_law_497 : decode cL_law 497 = .ok (.aaload, 1) := by decide +kernel
theorem dL_law_498 : decode cL_law 498 = .ok (.iconst 1, 1) := by decide +kernel
theorem dL_law_499 : decode cL_law 499 = .ok (.iaload, 1) := by decide +kernel
theorem dL_law_500 : decode cL_law 500 = .ok (.bipush 20, 2) := by decide +kernel
theorem dL_law_502 : decode cL_law 502 = .ok (.isub, 1) := by decide +kernel
theorem dL_law_503 : decode cL_law 503 = .ok (.if_icmp .lt 14, 3) := by decide +kernel
theorem dL_law_506 : decode cL_law 506 = .ok (.aload_n 1, 1) := by decide +kernel
theorem dL_law_507 : decode cL_law 507 = .ok (.iload 8, 2) := by decide +kernel
theorem dL_law_509 : decode cL_law 509 = .ok (.iload 20, 2) := by decide +kernel
theorem dL_law_511 : decode cL_law 511 = .ok (.invokevirtual 133, 3) := by decide +kernel
theorem dL_law_514 : decode cL_law 514 = .ok (.ifCond .ge 5, 3) := by decide +kernel
theorem dL_law_517 : decode cL_law 517 = .ok (.iconst 0, 1) := by decide +kernel
theorem dL_law_518 : decode cL_law 518 = .ok (.ireturn, 1) := by decide +kernel
theorem dL_law_519 : decode cL_law 519 = .ok (.iinc 20 1, 3) := by decide +kernel
theorem dL_law_522 : decode cL_law 522 = .ok (.goto (-222), 3) := by decide +kernel
theorem dL_law_525 : decode cL_law 525 = .ok (.aload_n 1, 1) := by decide +kernel
theorem dL_law_526 : decode cL_law 526 = .ok (.iload 8, 2) := by decide +kernel
theorem dL_law_528 : decode cL_law 528 = .ok (.iload 9, 2) := by decide +kernel
theorem dL_law_530 : decode cL_law 530 = .ok (.invokevirtual 136, 3) := by decide +kernel
theorem dL_law_533 : decode cL_law 533 = .ok (.iload 14, 2) := by decide +kernel
theorem dL_law_535 : decode cL_law 535 = .ok (.if_icmp .ne 77, 3) := by decide +kernel
theorem dL_law_538 : decode cL_law 538 = .ok (.aload_n 1, 1) := by decide +kernel
theorem dL_law_539 : decode cL_law 539 = .ok (.iload 8, 2) := by decide +kernel
theorem dL_law_541 : decode cL_law 541 = .ok (.iload 9, 2) := by decide +kernel
theorem dL_law_543 : decode cL_law 543 = .ok (.iconst 1, 1) := by decide +kernel
theorem dL_law_544 : decode cL_law 544 = .ok (.iload 9, 2) := by decide +kernel
theorem dL_law_546 : decode cL_law 546 = .ok (.iconst 2, 1) := by decide +kernel
theorem dL_law_547 : decode cL_law 547 = .ok (.idiv, 1) := by decide +kernel
theorem dL_law_548 : decode cL_law 548 = .ok (.iadd, 1) := by decide +kernel
theorem dL_law_549 : decode cL_law 549 = .ok (.invokevirtual 139, 3) := by decide +kernel
theorem dL_law_552 : decode cL_law 552 = .ok (.iload 15, 2) := by decide +kernel
theorem dL_law_554 : decode cL_law 554 = .ok (.if_icmp .ne 58, 3) := by decide +kernel
theorem dL_law_557 : decode cL_law 557 = .ok (.aload_n 1, 1) := by decide +kernel
theorem dL_law_558 : decode cL_law 558 = .ok (.iload 8, 2) := by decide +kernel
theorem dL_law_560 : decode cL_law 560 = .ok (.iload 9, 2) := by decide +kernel
theorem dL_law_562 : decode cL_law 562 = .ok (.invokevirtual 145, 3) := by decide +kernel
theorem dL_law_565 : decode cL_law 565 = .ok (.iload 16, 2) := by decide +kernel
theorem dL_law_567 : decode cL_law 567 = .ok (.if_icmp .ne 45, 3) := by decide +kernel
theorem dL_law_570 : decode cL_law 570 = .ok (.aload_n 1, 1) := by decide +kernel
theorem dL_law_571 : decode cL_law 571 = .ok (.iload 8, 2) := by decide +kernel
theorem dL_law_573 : decode cL_law 573 = .ok (.iload 9, 2) := by decide +kernel
theorem dL_law_575 : decode cL_law 575 = .ok (.invokevirtual 148, 3) := by decide +kernel
theorem dL_law_578 : decode cL_law 578 = .ok (.iload 17, 2) := by decide +kernel
theorem dL_law_580 : decode cL_law 580 = .ok (.if_icmp .ne 32, 3) := by decide +kernel
theorem dL_law_583 : decode cL_law 583 = .ok (.aload_n 1, 1) := by decide +kernel
theorem dL_law_584 : decode cL_law 584 = .ok (.iload 8, 2) := by decide +kernel
theorem dL_law_586 : decode cL_law 586 = .ok (.iload 9, 2) := by decide +kernel
theorem dL_law_588 : decode cL_law 588 = .ok (.iload 19, 2) := by decide +kernel
theorem dL_law_590 : decode cL_law 590 = .ok (.invokevirtual 142, 3) := by decide +kernel
theorem dL_law_593 : decode cL_law 593 = .ok (.iload 18, 2) := by decide +kernel
theorem dL_law_595 : decode cL_law 595 = .ok (.if_icmp .ne 17, 3) := by decide +kernel
theorem dL_law_598 : decode cL_law 598 = .ok (.aload_n 1, 1) := by decide +kernel
theorem dL_law_599 : decode cL_law 599 = .ok (.iload 8, 2) := by decide +kernel
theorem dL_law_601 : decode cL_law 601 = .ok (.iload 9, 2) := by decide +kernel
theorem dL_law_603 : decode cL_law 603 = .ok (.iconst 1, 1) := by decide +kernel
theorem dL_law_604 : decode cL_law 604 = .ok (.invokevirtual 139, 3) := by decide +kernel
theorem dL_law_607 : decode cL_law 607 = .ok (.iload 14, 2) := by decide +kernel
theorem dL_law_609 : decode cL_law 609 = .ok (.if_icmp .eq 5, 3) := by decide +kernel
theorem dL_law_612 : decode cL_law 612 = .ok (.iconst 0, 1) := by decide +kernel
theorem dL_law_613 : decode cL_law 613 = .ok (.ireturn, 1) := by decide +kernel
theorem dL_law_614 : decode cL_law 614 = .ok (.aload_n 1, 1) := by decide +kernel
theorem dL_law_615 : decode cL_law 615 = .ok (.iload 8, 2) := by decide +kernel
theorem dL_law_617 : decode cL_law 617 = .ok (.iload 9, 2) := by decide +kernel
theorem dL_law_619 : decode cL_law 619 = .ok (.iconst 1, 1) := by decide +kernel
theorem dL_law_620 : decode cL_law 620 = .ok (.invokevirtual 139, 3) := by decide +kernel
theorem dL_law_623 : decode cL_law 623 = .ok (.istore 20, 2) := by decide +kernel
theorem dL_law_625 : decode cL_law 625 = .ok (.iconst 2, 1) := by decide +kernel
theorem dL_law_626 : decode cL_law 626 = .ok (.istore 21, 2) := by decide +kernel
theorem dL_law_628 : decode cL_law 628 = .ok (.iload 21, 2) := by decide +kernel
theorem dL_law_630 : decode cL_law 630 = .ok (.sipush 1000, 3) := by decide +kernel
theorem dL_law_633 : decode cL_law 633 = .ok (.if_icmp .gt 46, 3) := by decide +kernel
theorem dL_law_636 : decode cL_law 636 = .ok (.aload_n 1, 1) := by decide +kernel
theorem dL_law_637 : decode cL_law 637 = .ok (.iload 8, 2) := by decide +kernel
theorem dL_law_639 : decode cL_law 639 = .ok (.iload 9, 2) := by decide +kernel
theorem dL_law_641 : decode cL_law 641 = .ok (.iload 21, 2) := by decide +kernel
theorem dL_law_643 : decode cL_law 643 = .ok (.invokevirtual 139, 3) := by decide +kernel
theorem dL_law_646 : decode cL_law 646 = .ok (.istore 22, 2) := by decide +kernel
theorem dL_law_648 : decode cL_law 648 = .ok (.iload 22, 2) := by decide +kernel
theorem dL_law_650 : decode cL_law 650 = .ok (.iload 20, 2) := by decide +kernel
theorem dL_law_652 : decode cL_law 652 = .ok (.if_icmp .gt 15, 3) := by decide +kernel
theorem dL_law_655 : decode cL_law 655 = .ok (.iload 21, 2) := by decide +kernel
theorem dL_law_657 : decode cL_law 657 = .ok (.iload 9, 2) := by decide +kernel
theorem dL_law_659 : decode cL_law 659 = .ok (.if_icmp .le 10, 3) := by decide +kernel
theorem dL_law_662 : decode cL_law 662 = .ok (.iload 22, 2) := by decide +kernel
theorem dL_law_664 : decode cL_law 664 = .ok (.ifCond .le 5, 3) := by decide +kernel
theorem dL_law_667 : decode cL_law 667 = .ok (.iconst 0, 1) := by decide +kernel
theorem dL_law_668 : decode cL_law 668 = .ok (.ireturn, 1) := by decide +kernel
theorem dL_law_669 : decode cL_law 669 = .ok (.iload 22, 2) := by decide +kernel
theorem dL_law_671 : decode cL_law 671 = .ok (.istore 20, 2) := by decide +kernel
theorem dL_law_673 : decode cL_law 673 = .ok (.iinc 21 61, 3) := by decide +kernel
theorem dL_law_676 : decode cL_law 676 = .ok (.goto (-48), 3) := by decide +kernel
theorem dL_law_679 : decode cL_law 679 = .ok (.iinc 8 1, 3) := by decide +kernel
theorem dL_law_682 : decode cL_law 682 = .ok (.goto (-587), 3) := by decide +kernel
theorem dL_law_685 : decode cL_law 685 = .ok (.iload 6, 2) := by decide +kernel
theorem dL_law_687 : decode cL_law 687 = .ok (.aload_n 1, 1) := by decide +kernel
theorem dL_law_688 : decode cL_law 688 = .ok (.invokevirtual 156, 3) := by decide +kernel
theorem dL_law_691 : decode cL_law 691 = .ok (.if_icmp .ne 18, 3) := by decide +kernel
theorem dL_law_694 : decode cL_law 694 = .ok (.aload_n 1, 1) := by decide +kernel
theorem dL_law_695 : decode cL_law 695 = .ok (.invokevirtual 159, 3) := by decide +kernel
theorem dL_law_698 : decode cL_law 698 = .ok (.iload 7, 2) := by decide +kernel
theorem dL_law_700 : decode cL_law 700 = .ok (.i2d, 1) := by decide +kernel
theorem dL_law_701 : decode cL_law 701 = .ok (.iload 5, 2) := by decide +kernel
theorem dL_law_703 : decode cL_law 703 = .ok (.i2d, 1) := by decide +kernel
theorem dL_law_704 : decode cL_law 704 = .ok (.ddiv, 1) := by decide +kernel
theorem dL_law_705 : decode cL_law 705 = .ok (.dcmp .l, 1) := by decide +kernel
theorem dL_law_706 : decode cL_law 706 = .ok (.ifCond .eq 5, 3) := by decide +kernel
theorem dL_law_709 : decode cL_law 709 = .ok (.iconst 0, 1) := by decide +kernel
theorem dL_law_710 : decode cL_law 710 = .ok (.ireturn, 1) := by decide +kernel
theorem dL_law_711 : decode cL_law 711 = .ok (.iconst 0, 1) := by decide +kernel
theorem dL_law_712 : decode cL_law 712 = .ok (.istore 8, 2) := by decide +kernel
theorem dL_law_714 : decode cL_law 714 = .ok (.iload 8, 2) := by decide +kernel
theorem dL_law_716 : decode cL_law 716 = .ok (.aload_n 1, 1) := by decide +kernel
theorem dL_law_717 : decode cL_law 717 = .ok (.invokevirtual 163, 3) := by decide +kernel
theorem dL_law_720 : decode cL_law 720 = .ok (.if_icmp .ge 110, 3) := by decide +kernel
theorem dL_law_723 : decode cL_law 723 = .ok (.iconst 0, 1) := by decide +kernel
theorem dL_law_724 : decode cL_law 724 = .ok (.istore 9, 2) := by decide +kernel
theorem dL_law_726 : decode cL_law 726 = .ok (.iconst 0, 1) := by decide +kernel
theorem dL_law_727 : decode cL_law 727 = .ok (.istore 10, 2) := by decide +kernel
theorem dL_law_729 : decode cL_law 729 = .ok (.iload 10, 2) := by decide +kernel
theorem dL_law_731 : decode cL_law 731 = .ok (.iload 5, 2) := by decide +kernel
theorem dL_law_733 : decode cL_law 733 = .ok (.if_icmp .ge 78, 3) := by decide +kernel
theorem dL_law_736 : decode cL_law 736 = .ok (.aload_n 1, 1) := by decide +kernel
theorem dL_law_737 : decode cL_law 737 = .ok (.iload 10, 2) := by decide +kernel
theorem dL_law_739 : decode cL_law 739 = .ok (.iload 8, 2) := by decide +kernel
theorem dL_law_741 : decode cL_law 741 = .ok (.invokevirtual 166, 3) := by decide +kernel
theorem dL_law_744 : decode cL_law 744 = .ok (.istore 11, 2) := by decide +kernel
theorem dL_law_746 : decode cL_law 746 = .ok (.iload 9, 2) := by decide +kernel
theorem dL_law_748 : decode cL_law 748 = .ok (.iload 11, 2) := by decide +kernel
theorem dL_law_750 : decode cL_law 750 = .ok (.ifCond .eq 7, 3) := by decide +kernel
theorem dL_law_753 : decode cL_law 753 = .ok (.iconst 1, 1) := by decide +kernel
theorem dL_law_754 : decode cL_law 754 = .ok (.goto 4, 3) := by decide +kernel
theorem dL_law_757 : decode cL_law 757 = .ok (.iconst 0, 1) := by decide +kernel
theorem dL_law_758 : decode cL_law 758 = .ok (.iadd, 1) := by decide +kernel
theorem dL_law_759 : decode cL_law 759 = .ok (.istore 9, 2) := by decide +kernel
theorem dL_law_761 : decode cL_law 761 = .ok (.iload 11, 2) := by decide +kernel
theorem dL_law_763 : decode cL_law 763 = .ok (.ifCond .ne 6, 3) := by decide +kernel
theorem dL_law_766 : decode cL_law 766 = .ok (.goto 39, 3) := by decide +kernel
theorem dL_law_769 : decode cL_law 769 = .ok (.aload_n 1, 1) := by decide +kernel
theorem dL_law_770 : decode cL_law 770 = .ok (.iload 10, 2) := by decide +kernel
theorem dL_law_772 : decode cL_law 772 = .ok (.invokevirtual 117, 3) := by decide +kernel
theorem dL_law_775 : decode cL_law 775 = .ok (.istore 12, 2) := by decide +kernel
theorem dL_law_777 : decode cL_law 777 = .ok (.aload_n 1, 1) := by decide +kernel
theorem dL_law_778 : decode cL_law 778 = .ok (.iload 10, 2) := by decide +kernel
theorem dL_law_780 : decode cL_law 780 = .ok (.iload 8, 2) := by decide +kernel
theorem dL_law_782 : decode cL_law 782 = .ok (.iload 12, 2) := by decide +kernel
theorem dL_law_784 : decode cL_law 784 = .ok (.iload 4, 2) := by decide +kernel
theorem dL_law_786 : decode cL_law 786 = .ok (.iconst 3, 1) := by decide +kernel
theorem dL_law_787 : decode cL_law 787 = .ok (.ishr, 1) := by decide +kernel
theorem dL_law_788 : decode cL_law 788 = .ok (.bipush 91, 2) := by decide +kernel
theorem dL_law_790 : decode cL_law 790 = .ok (.iload 12, 2) := by decide +kernel
theorem dL_law_792 : decode cL_law 792 = .ok (.isub, 1) := by decide +kernel
theorem dL_law_793 : decode cL_law 793 = .ok (.invokestatic 15, 3) := by decide +kernel
theorem dL_law_796 : decode cL_law 796 = .ok (.iadd, 1) := by decide +kernel
theorem dL_law_797 : decode cL_law 797 = .ok (.invokevirtual 168, 3) := by decide +kernel
theorem dL_law_800 : decode cL_law 800 = .ok (.ifCond .ne 5, 3) := by decide +kernel
theorem dL_law_803 : decode cL_law 803 = .ok (.iconst 0, 1) := by decide +kernel
theorem dL_law_804 : decode cL_law 804 = .ok (.ireturn, 1) := by decide +kernel
theorem dL_law_805 : decode cL_law 805 = .ok (.iinc 10 1, 3) := by decide +kernel
theorem dL_law_808 : decode cL_law 808 = .ok (.goto (-79), 3) := by decide +kernel
theorem dL_law_811 : decode cL_law 811 = .ok (.iload 9, 2) := by decide +kernel
theorem dL_law_813 : decode cL_law 813 = .ok (.aload_n 1, 1) := by decide +kernel
theorem dL_law_814 : decode cL_law 814 = .ok (.iload 8, 2) := by decide +kernel
theorem dL_law_816 : decode cL_law 816 = .ok (.invokevirtual 172, 3) := by decide +kernel
theorem dL_law_819 : decode cL_law 819 = .ok (.if_icmp .eq 5, 3) := by decide +kernel
theorem dL_law_822 : decode cL_law 822 = .ok (.iconst 0, 1) := by decide +kernel
theorem dL_law_823 : decode cL_law 823 = .ok (.ireturn, 1) := by decide +kernel
theorem dL_law_824 : decode cL_law 824 = .ok (.iinc 8 1, 3) := by decide +kernel
theorem dL_law_827 : decode cL_law 827 = .ok (.goto (-113), 3) := by decide +kernel
theorem dL_law_830 : decode cL_law 830 = .ok (.iinc 3 1, 3) := by decide +kernel
theorem dL_law_833 : decode cL_law 833 = .ok (.goto (-811), 3) := by decide +kernel
theorem dL_law_836 : decode cL_law 836 = .ok (.aload_n 2, 1) := by decide +kernel
theorem dL_law_837 : decode cL_law 837 = .ok (.aload_n 1, 1) := by decide +kernel
theorem dL_law_838 : decode cL_law 838 = .ok (.sipush 1000, 3) := by decide +kernel
theorem dL_law_841 : decode cL_law 841 = .ok (.invokevirtual 175, 3) := by decide +kernel
theorem dL_law_844 : decode cL_law 844 = .ok (.ireturn, 1) := by decide +kernel
