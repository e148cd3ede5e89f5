theorem dL_refuses_439 : decode cL_refuses 439 = .ok (.ldc 32, 2) := by decide +kernel
theorem dL_refuses_441 : decode cL_refuses 441 = .ok (.if_icmp .ne 29, 3) := by decide +kernel
theorem dL_refuses_444 : decode cL_refuses 444 = .ok (.aload_n 0, 1) := by decide +kernel
theorem dL_refuses_445 : decode cL_refuses 445 = .ok (.iconst (-1), 1) := by decide +kernel
theorem dL_refuses_446 : decode cL_refuses 446 = .ok (.invokestatic 133, 3) := by decide +kernel
theorem dL_refuses_449 : decode cL_refuses 449 = .ok (.ldc 32, 2) := by decide +kernel
theorem dL_refuses_451 : decode cL_refuses 451 = .ok (.if_icmp .ne 19, 3) := by decide +kernel
theorem dL_refuses_454 : decode cL_refuses 454 = .ok (.aload_n 0, 1) := by decide +kernel
theorem dL_refuses_455 : decode cL_refuses 455 = .ok (.sipush 256, 3) := by decide +kernel
theorem dL_refuses_458 : decode cL_refuses 458 = .ok (.invokestatic 95, 3) := by decide +kernel
theorem dL_refuses_461 : decode cL_refuses 461 = .ok (.ldc 15, 2) := by decide +kernel
theorem dL_refuses_463 : decode cL_refuses 463 = .ok (.if_icmp .ne 7, 3) := by decide +kernel
theorem dL_refuses_466 : decode cL_refuses 466 = .ok (.iconst 1, 1) := by decide +kernel
theorem dL_refuses_467 : decode cL_refuses 467 = .ok (.goto 4, 3) := by decide +kernel
theorem dL_refuses_470 : decode cL_refuses 470 = .ok (.iconst 0, 1) := by decide +kernel
theorem dL_refuses_471 : decode cL_refuses 471 = .ok (.ireturn, 1) := by decide +kernel
theorem dL_span_0 : decode cL_span 0 = .ok (.aload_n 0, 1) := by decide +kernel
theorem dL_span_1 : decode cL_span 1 = .ok (.iload_n 1, 1) := by decide +kernel
theorem dL_span_2 : decode cL_span 2 = .ok (.iconst 1, 1) := by decide +kernel
theorem dL_span_3 : decode cL_span 3 = .ok (.invokestatic 142, 3) := by decide +kernel
theorem dL_span_6 : decode cL_span 6 = .ok (.aload_n 0, 1) := by decide +kernel
theorem dL_span_7 : decode cL_span 7 = .ok (.iload_n 1, 1) := by decide +kernel
theorem dL_span_8 : decode cL_span 8 = .ok (.iconst 2, 1) := by decide +kernel
theorem dL_span_9 : decode cL_span 9 = .ok (.invokestatic 142, 3) := by decide +kernel
theorem dL_span_12 : decode cL_span 12 = .ok (.isub, 1) := by decide +kernel
theorem dL_span_13 : decode cL_span 13 = .ok (.ireturn, 1) := by decide +kernel
theorem dL_sound_0 : decode cL_sound 0 = .ok (.aload_n 0, 1) := by decide +kernel
theorem dL_sound_1 : decode cL_sound 1 = .ok (.bipush 16, 2) := by decide +kernel
theorem dL_sound_3 : decode cL_sound 3 = .ok (.invokestatic 127, 3) := by decide +kernel
theorem dL_sound_6 : decode cL_sound 6 = .ok (.istore_n 1, 1) := by decide +kernel
theorem dL_sound_7 : decode cL_sound 7 = .ok (.iconst 0, 1) := by decide +kernel
theorem dL_sound_8 : decode cL_sound 8 = .ok (.istore_n 2, 1) := by decide +kernel
theorem dL_sound_9 : decode cL_sound 9 = .ok (.aload_n 0, 1) := by decide +kernel
theorem dL_sound_10 : decode cL_sound 10 = .ok (.bipush 7, 2) := by decide +kernel
theorem dL_sound_12 : decode cL_sound 12 = .ok (.invokestatic 127, 3) := by decide +kernel
theorem dL_sound_15 : decode cL_sound 15 = .ok (.istore_n 3, 1) := by decide +kernel
theorem dL_sound_16 : decode cL_sound 16 = .ok (.aload_n 0, 1) := by decide +kernel
theorem dL_sound_17 : decode cL_sound 17 = .ok (.iconst 0, 1) := by decide +kernel
theorem dL_sound_18 : decode cL_sound 18 = .ok (.invokevirtual 146, 3) := by decide +kernel
theorem dL_sound_21 : decode cL_sound 21 = .ok (.istore 4, 2) := by decide +kernel
theorem dL_sound_23 : decode cL_sound 23 = .ok (.aload_n 0, 1) := by decide +kernel
theorem dL_sound_24 : decode cL_sound 24 = .ok (.iconst 1, 1) := by decide +kernel
theorem dL_sound_25 : decode cL_sound 25 = .ok (.invokevirtual 146, 3) := by decide +kernel
theorem dL_sound_28 : decode cL_sound 28 = .ok (.istore 5, 2) := by decide +kernel
theorem dL_sound_30 : decode cL_sound 30 = .ok (.iconst 0, 1) := by decide +kernel
theorem dL_sound_31 : decode cL_sound 31 = .ok (.istore 6, 2) := by decide +kernel
theorem dL_sound_33 : decode cL_sound 33 = .ok (.iconst 0, 1) := by decide +kernel
theorem dL_sound_34 : decode cL_sound 34 = .ok (.istore 7, 2) := by decide +kernel
theorem dL_sound_36 : decode cL_sound 36 = .ok (.iload_n 1, 1) := by decide +kernel
theorem dL_sound_37 : decode cL_sound 37 = .ok (.iconst 2, 1) := by decide +kernel
theorem dL_sound_38 : decode cL_sound 38 = .ok (.if_icmp .ge 7, 3) := by decide +kernel
theorem dL_sound_41 : decode cL_sound 41 = .ok (.iconst 1, 1) := by decide +kernel
theorem dL_sound_42 : decode cL_sound 42 = .ok (.goto 4, 3) := by decide +kernel
theorem dL_sound_45 : decode cL_sound 45 = .ok (.iconst 0, 1) := by decide +kernel
theorem dL_sound_46 : decode cL_sound 46 = .ok (.iload 4, 2) := by decide +kernel
theorem dL_sound_48 : decode cL_sound 48 = .ok (.ldc 119, 2) := by decide +kernel
theorem dL_sound_50 : decode cL_sound 50 = .ok (.if_icmp .ne 7, 3) := by decide +kernel
theorem dL_sound_53 : decode cL_sound 53 = .ok (.iconst 1, 1) := by decide +kernel
theorem dL_sound_54 : decode cL_sound 54 = .ok (.goto 4, 3) := by decide +kernel
theorem dL_sound_57 : decode cL_sound 57 = .ok (.iconst 0, 1) := by decide +kernel
theorem dL_sound_58 : decode cL_sound 58 = .ok (.if_icmp .ne 32, 3) := by decide +kernel
theorem dL_sound_61 : decode cL_sound 61 = .ok (.iload_n 1, 1) := by decide +kernel
theorem dL_sound_62 : decode cL_sound 62 = .ok (.iconst 2, 1) := by decide +kernel
theorem dL_sound_63 : decode cL_sound 63 = .ok (.if_icmp .ge 7, 3) := by decide +kernel
theorem dL_sound_66 : decode cL_sound 66 = .ok (.iconst 1, 1) := by decide +kernel
theorem dL_sound_67 : decode cL_sound 67 = .ok (.goto 4, 3) := by decide +kernel
theorem dL_sound_70 : decode cL_sound 70 = .ok (.iconst 0, 1) := by decide +kernel
theorem dL_sound_71 : decode cL_sound 71 = .ok (.iload 5, 2) := by decide +kernel
theorem dL_sound_73 : decode cL_sound 73 = .ok (.ldc 119, 2) := by decide +kernel
theorem dL_sound_75 : decode cL_sound 75 = .ok (.if_icmp .ne 7, 3) := by decide +kernel
theorem dL_sound_78 : decode cL_sound 78 = .ok (.iconst 1, 1) := by decide +kernel
theorem dL_sound_79 : decode cL_sound 79 = .ok (.goto 4, 3) := by decide +kernel
theorem dL_sound_82 : decode cL_sound 82 = .ok (.iconst 0, 1) := by decide +kernel
theorem dL_sound_83 : decode cL_sound 83 = .ok (.if_icmp .ne 7, 3) := by decide +kernel
theorem dL_sound_86 : decode cL_sound 86 = .ok (.iconst 1, 1) := by decide +kernel
theorem dL_sound_87 : decode cL_sound 87 = .ok (.goto 4, 3) := by decide +kernel
theorem dL_sound_90 : decode cL_sound 90 = .ok (.iconst 0, 1) := by decide +kernel
theorem dL_sound_91 : decode cL_sound 91 = .ok (.istore 8, 2) := by decide +kernel
theorem dL_sound_93 : decode cL_sound 93 = .ok (.iconst 0, 1) := by decide +kernel
theorem dL_sound_94 : decode cL_sound 94 = .ok (.istore 9, 2) := by decide +kernel
theorem dL_sound_96 : decode cL_sound 96 = .ok (.iload 9, 2) := by decide +kernel
theorem dL_sound_98 : decode cL_sound 98 = .ok (.iload_n 1, 1) := by decide +kernel
theorem dL_sound_99 : decode cL_sound 99 = .ok (.if_icmp .ge 216, 3) := by decide +kernel
theorem dL_sound_102 : decode cL_sound 102 = .ok (.iload 8, 2) := by decide +kernel
theorem dL_sound_104 : decode cL_sound 104 = .ok (.ifCond .eq 211, 3) := by decide +kernel
theorem dL_sound_107 : decode cL_sound 107 = .ok (.aload_n 0, 1) := by decide +kernel
theorem dL_sound_108 : decode cL_sound 108 = .ok (.iload 9, 2) := by decide +kernel
theorem dL_sound_110 : decode cL_sound 110 = .ok (.iconst 0, 1) := by decide +kernel
theorem dL_sound_111 : decode cL_sound 111 = .ok (.invokestatic 142, 3) := by decide +kernel
theorem dL_sound_114 : decode cL_sound 114 = .ok (.istore 10, 2) := by decide +kernel
theorem dL_sound_116 : decode cL_sound 116 = .ok (.iload 9, 2) := by decide +kernel
theorem dL_sound_118 : decode cL_sound 118 = .ok (.ifCond .ne 7, 3) := by decide +kernel
theorem dL_sound_121 : decode cL_sound 121 = .ok (.iconst 1, 1) := by decide +kernel
theorem dL_sound_122 : decode cL_sound 122 = .ok (.goto 52, 3) := by decide +kernel
theorem dL_sound_125 : decode cL_sound 125 = .ok (.bipush 100, 2) := by decide +kernel
theorem dL_sound_127 : decode cL_sound 127 = .ok (.iload 10, 2) := by decide +kernel
theorem dL_sound_129 : decode cL_sound 129 = .ok (.iload 4, 2) := by decide +kernel
theorem dL_sound_131 : decode cL_sound 131 = .ok (.isub, 1) := by decide +kernel
theorem dL_sound_132 : decode cL_sound 132 = .ok (.invokestatic 120, 3) := by decide +kernel
theorem dL_sound_135 : decode cL_sound 135 = .ok (.imul, 1) := by decide +kernel
theorem dL_sound_136 : decode cL_sound 136 = .ok (.iload_n 3, 1) := by decide +kernel
theorem dL_sound_137 : decode cL_sound 137 = .ok (.iload 4, 2) := by decide +kernel
theorem dL_sound_139 : decode cL_sound 139 = .ok (.imul, 1) := by decide +kernel
theorem dL_sound_140 : decode cL_sound 140 = .ok (.if_icmp .le 7, 3) := by decide +kernel
theorem dL_sound_143 : decode cL_sound 143 = .ok (.iconst 2, 1) := by decide +kernel
theorem dL_sound_144 : decode cL_sound 144 = .ok (.goto 30, 3) := by decide +kernel
theorem dL_sound_147 : decode cL_sound 147 = .ok (.bipush 100, 2) := by decide +kernel
theorem dL_sound_149 : decode cL_sound 149 = .ok (.aload_n 0, 1) := by decide +kernel
theorem dL_sound_150 : decode cL_sound 150 = .ok (.iload 9, 2) := by decide +kernel
theorem dL_sound_152 : decode cL_sound 152 = .ok (.invokestatic 199, 3) := by decide +kernel
theorem dL_sound_155 : decode cL_sound 155 = .ok (.iload 5, 2) := by decide +kernel
theorem dL_sound_157 : decode cL_sound 157 = .ok (.isub, 1) := by decide +kernel
theorem dL_sound_158 : decode cL_sound 158 = .ok (.invokestatic 120, 3) := by decide +kernel
theorem dL_sound_161 : decode cL_sound 161 = .ok (.imul, 1) := by decide +kernel
theorem dL_sound_162 : decode cL_sound 162 = .ok (.iload_n 3, 1) := by decide +kernel
theorem dL_sound_163 : decode cL_sound 163 = .ok (.iload 5, 2) := by decide +kernel
theorem dL_sound_165 : decode cL_sound 165 = .ok (.imul, 1) := by decide +kernel
theorem dL_sound_166 : decode cL_sound 166 = .ok (.if_icmp .le 7, 3) := by decide +kernel
theorem dL_sound_169 : decode cL_sound 169 = .ok (.iconst 3, 1) := by decide +kernel
theorem dL_sound_170 : decode cL_sound 170 = .ok (.goto 4, 3) := by decide +kernel
theorem dL_sound_173 : decode cL_sound 173 = .ok (.iconst 0, 1) := by decide +kernel
theorem dL_sound_174 : decode cL_sound 174 = .ok (.istore 11, 2) := by decide +kernel
theorem dL_sound_176 : decode cL_sound 176 = .ok (.iload_n 2, 1) := by decide +kernel
theorem dL_sound_177 : decode cL_sound 177 = .ok (.iload 11, 2) := by decide +kernel
theorem dL_sound_179 : decode cL_sound 179 = .ok (.ifCond .ne 7, 3) := by decide +kernel
theorem dL_sound_182 : decode cL_sound 182 = .ok (.iconst 1, 1) := by decide +kernel
theorem dL_sound_183 : decode cL_sound 183 = .ok (.goto 4, 3) := by decide +kernel
theorem dL_sound_186 : decode cL_sound 186 = .ok (.iconst 0, 1) := by decide +kernel
theorem dL_sound_187 : decode cL_sound 187 = .ok (.iadd, 1) := by decide +kernel
theorem dL_sound_188 : decode cL_sound 188 = .ok (.istore_n 2, 1) := by decide +kernel
theorem dL_sound_189 : decode cL_sound 189 = .ok (.iload 6, 2) := by decide +kernel
theorem dL_sound_191 : decode cL_sound 191 = .ok (.iload 9, 2) := by decide +kernel
theorem dL_sound_193 : decode cL_sound 193 = .ok (.ifCond .le 14, 3) := by decide +kernel
theorem dL_sound_196 : decode cL_sound 196 = .ok (.iload 10, 2) := by decide +kernel
theorem dL_sound_198 : decode cL_sound 198 = .ok (.iload 4, 2) := by decide +kernel
theorem dL_sound_200 : decode cL_sound 200 = .ok (.if_icmp .ge 7, 3) := by decide +kernel
theorem dL_sound_203 : decode cL_sound 203 = .ok (.iconst 1, 1) := by decide +kernel
theorem dL_sound_204 : decode cL_sound 204 = .ok (.goto 4, 3) := by decide +kernel
theorem dL_sound_207 : decode cL_sound 207 = .ok (.iconst 0, 1) := by decide +kernel
theorem dL_sound_208 : decode cL_sound 208 = .ok (.iadd, 1) := by decide +kernel
theorem dL_sound_209 : decode cL_sound 209 = .ok (.istore 6, 2) := by decide +kernel
theorem dL_sound_211 : decode cL_sound 211 = .ok (.iload 7, 2) := by decide +kernel
theorem dL_sound_213 : decode cL_sound 213 = .ok (.iload 9, 2) := by decide +kernel
theorem dL_sound_215 : decode cL_sound 215 = .ok (.ifCond .le 14, 3) := by decide +kernel
theorem dL_sound_218 : decode cL_sound 218 = .ok (.iload 10, 2) := by decide +kernel
theorem dL_sound_220 : decode cL_sound 220 = .ok (.iload 4, 2) := by decide +kernel
theorem dL_sound_222 : decode cL_sound 222 = .ok (.if_icmp .le 7, 3) := by decide +kernel
theorem dL_sound_225 : decode cL_sound 225 = .ok (.iconst 1, 1) := by decide +kernel
theorem dL_sound_226 : decode cL_sound 226 = .ok (.goto 4, 3) := by decide +kernel
theorem dL_sound_229 : decode cL_sound 229 = .ok (.iconst 0, 1) := by decide +kernel
theorem dL_sound_230 : decode cL_sound 230 = .ok (.iadd, 1) := by decide +kernel
theorem dL_sound_231 : decode cL_sound 231 = .ok (.istore 7, 2) := by decide +kernel
theorem dL_sound_233 : decode cL_sound 233 = .ok (.aload_n 0, 1) := by decide +kernel
theorem dL_sound_234 : decode cL_sound 234 = .ok (.iload 9, 2) := by decide +kernel
theorem dL_sound_236 : decode cL_sound 236 = .ok (.iconst 3, 1) := by decide +kernel
theorem dL_sound_237 : decode cL_sound 237 = .ok (.invokestatic 142, 3) := by decide +kernel
theorem dL_sound_240 : decode cL_sound 240 = .ok (.iload 11, 2) := by decide +kernel
theorem dL_sound_242 : decode cL_sound 242 = .ok (.if_icmp .ne 64, 3) := by decide +kernel
theorem dL_sound_245 : decode cL_sound 245 = .ok (.iload 10, 2) := by decide +kernel
theorem dL_sound_247 : decode cL_sound 247 = .ok (.ifCond .le 59, 3) := by decide +kernel
theorem dL_sound_250 : decode cL_sound 250 = .ok (.aload_n 0, 1) := by decide +kernel
theorem dL_sound_251 : decode cL_sound 251 = .ok (.iload 9, 2) := by decide +kernel
theorem dL_sound_253 : decode cL_sound 253 = .ok (.invokestatic 199, 3) := by decide +kernel
theorem dL_sound_256 : decode cL_sound 256 = .ok (.ifCond .lt 50, 3) := by decide +kernel
theorem dL_sound_259 : decode cL_sound 259 = .ok (.iload 9, 2) := by decide +kernel
theorem dL_sound_261 : decode cL_sound 261 = .ok (.ifCond .eq 25, 3) := by decide +kernel
theorem dL_sound_264 : decode cL_sound 264 = .ok (.aload_n 0, 1) := by decide +kernel
theorem dL_sound_265 : decode cL_sound 265 = .ok (.iload 9, 2) := by decide +kernel
theorem dL_sound_267 : decode cL_sound 267 = .ok (.iconst 4, 1) := by decide +kernel
theorem dL_sound_268 : decode cL_sound 268 = .ok (.invokestatic 142, 3) := by decide +kernel
theorem dL_sound_271 : decode cL_sound 271 = .ok (.aload_n 0, 1) := by decide +kernel
theorem dL_sound_272 : decode cL_sound 272 = .ok (.iload 9, 2) := by decide +kernel
theorem dL_sound_274 : decode cL_sound 274 = .ok (.iconst 1, 1) := by decide +kernel
theorem dL_sound_275 : decode cL_sound 275 = .ok (.isub, 1) := by decide +kernel
theorem dL_sound_276 : decode cL_sound 276 = .ok (.iconst 4, 1) := by decide +kernel
theorem dL_sound_277 : decode cL_sound 277 = .ok (.invokestatic 142, 3) := by decide +kernel
theorem dL_sound_280 : decode cL_sound 280 = .ok (.iload 10, 2) := by decide +kernel
theorem dL_sound_282 : decode cL_sound 282 = .ok (.iadd, 1) := by decide +kernel
theorem dL_sound_283 : decode cL_sound 283 = .ok (.if_icmp .lt 23, 3) := by decide +kernel
theorem dL_sound_286 : decode cL_sound 286 = .ok (.aload_n 0, 1) := by decide +kernel
theorem dL_sound_287 : decode cL_sound 287 = .ok (.iload 9, 2) := by decide +kernel
theorem dL_sound_289 : decode cL_sound 289 = .ok (.iconst 4, 1) := by decide +kernel
theorem dL_sound_290 : decode cL_sound 290 = .ok (.invokestatic 142, 3) := by decide +kernel
theorem dL_sound_293 : decode cL_sound 293 = .ok (.aload_n 0, 1) := by decide +kernel
theorem dL_sound_294 : decode cL_sound 294 = .ok (.bipush 13, 2) := by decide +kernel
theorem dL_sound_296 : decode cL_sound 296 = .ok (.invokestatic 127, 3) := by decide +kernel
theorem dL_sound_299 : decode cL_sound 299 = .ok (.if_icmp .gt 7, 3) := by decide +kernel
theorem dL_sound_302 : decode cL_sound 302 = .ok (.iconst 1, 1) := by decide +kernel
theorem dL_sound_303 : decode cL_sound 303 = .ok (.goto 4, 3) := by decide +kernel
theorem dL_sound_306 : decode cL_sound 306 = .ok (.iconst 0, 1) := by decide +kernel
theorem dL_sound_307 : decode cL_sound 307 = .ok (.istore 8, 2) := by decide +kernel
theorem dL_sound_309 : decode cL_sound 309 = .ok (.iinc 9 1, 3) := by decide +kernel
theorem dL_sound_312 : decode cL_sound 312 = .ok (.goto (-216), 3) := by decide +kernel
theorem dL_sound_315 : decode cL_sound 315 = .ok (.aload_n 0, 1) := by decide +kernel
theorem dL_sound_316 : decode cL_sound 316 = .ok (.bipush 13, 2) := by decide +kernel
theorem dL_sound_318 : decode cL_sound 318 = .ok (.invokestatic 127, 3) := by decide +kernel
theorem dL_sound_321 : decode cL_sound 321 = .ok (.istore 9, 2) := by decide +kernel
theorem dL_sound_323 : decode cL_sound 323 = .ok (.iload 8, 2) := by decide +kernel
theorem dL_sound_325 : decode cL_sound 325 = .ok (.ifCond .eq 173, 3) := by decide +kernel
theorem dL_sound_328 : decode cL_sound 328 = .ok (.aload_n 0, 1) := by decide +kernel
theorem dL_sound_329 : decode cL_sound 329 = .ok (.bipush 17, 2) := by decide +kernel
theorem dL_sound_331 : decode cL_sound 331 = .ok (.invokestatic 127, 3) := by decide +kernel
theorem dL_sound_334 : decode cL_sound 334 = .ok (.iload_n 2, 1) := by decide +kernel
theorem dL_sound_335 : decode cL_sound 335 = .ok (.if_icmp .ne 163, 3) := by decide +kernel
theorem dL_sound_338 : decode cL_sound 338 = .ok (.iconst 2, 1) := by decide +kernel
theorem dL_sound_339 : decode cL_sound 339 = .ok (.iload 6, 2) := by decide +kernel
theorem dL_sound_341 : decode cL_sound 341 = .ok (.imul, 1) := by decide +kernel
theorem dL_sound_342 : decode cL_sound 342 = .ok (.iload_n 1, 1) := by decide +kernel
theorem dL_sound_343 : decode cL_sound 343 = .ok (.if_icmp .gt 155, 3) := by decide +kernel
theorem dL_sound_346 : decode cL_sound 346 = .ok (.iconst 2, 1) := by decide +kernel
theorem dL_sound_347 : decode cL_sound 347 = .ok (.iload 7, 2) := by decide +kernel
theorem dL_sound_349 : decode cL_sound 349 = .ok (.imul, 1) := by decide +kernel
theorem dL_sound_350 : decode cL_sound 350 = .ok (.iload_n 1, 1) := by decide +kernel
theorem dL_sound_351 : decode cL_sound 351 = .ok (.if_icmp .gt 147, 3) := by decide +kernel
theorem dL_sound_354 : decode cL_sound 354 = .ok (.iload 9, 2) := by decide +kernel
theorem dL_sound_356 : decode cL_sound 356 = .ok (.aload_n 0, 1) := by decide +kernel
theorem dL_sound_357 : decode cL_sound 357 = .ok (.iconst 0, 1) := by decide +kernel
theorem dL_sound_358 : decode cL_sound 358 = .ok (.invokestatic 139, 3) := by decide +kernel
theorem dL_sound_361 : decode cL_sound 361 = .ok (.aload_n 0, 1) := by decide +kernel
theorem dL_sound_362 : decode cL_sound 362 = .ok (.iconst 1, 1) := by decide +kernel
theorem dL_sound_363 : decode cL_sound 363 = .ok (.invokestatic 139, 3) := by decide +kernel
theorem dL_sound_366 : decode cL_sound 366 = .ok (.iadd, 1) := by decide +kernel
theorem dL_sound_367 : decode cL_sound 367 = .ok (.aload_n 0, 1) := by decide +kernel
theorem dL_sound_368 : decode cL_sound 368 = .ok (.iconst 2, 1) := by decide +kernel
theorem dL_sound_369 : decode cL_sound 369 = .ok (.invokestatic 139, 3) := by decide +kernel
theorem dL_sound_372 : decode cL_sound 372 = .ok (.iadd, 1) := by decide +kernel
theorem dL_sound_373 : decode cL_sound 373 = .ok (.if_icmp .ne 125, 3) := by decide +kernel
theorem dL_sound_376 : decode cL_sound 376 = .ok (.aload_n 0, 1) := by decide +kernel
theorem dL_sound_377 : decode cL_sound 377 = .ok (.iconst 3, 1) := by decide +kernel
theorem dL_sound_378 : decode cL_sound 378 = .ok (.invokestatic 139, 3) := by decide +kernel
theorem dL_sound_381 : decode cL_sound 381 = .ok (.iload 9, 2) := by decide +kernel
theorem dL_sound_383 : decode cL_sound 383 = .ok (.aload_n 0, 1) := by decide +kernel
theorem dL_sound_384 : decode cL_sound 384 = .ok (.iconst 4, 1) := by decide +kernel
theorem dL_sound_385 : decode cL_sound 385 = .ok (.invokestatic 127, 3) := by decide +kernel
theorem dL_sound_388 : decode cL_sound 388 = .ok (.imul, 1) := by decide +kernel
theorem dL_sound_389 : decode cL_sound 389 = .ok (.if_icmp .gt 109, 3) := by decide +kernel
theorem dL_sound_392 : decode cL_sound 392 = .ok (.aload_n 0, 1) := by decide +kernel
theorem dL_sound_393 : decode cL_sound 393 = .ok (.iconst 4, 1) := by decide +kernel
theorem dL_sound_394 : decode cL_sound 394 = .ok (.invokestatic 139, 3) := by decide +kernel
theorem dL_sound_397 : decode cL_sound 397 = .ok (.iload 9, 2) := by decide +kernel
theorem dL_sound_399 : decode cL_sound 399 = .ok (.if_icmp .gt 99, 3) := by decide +kernel
theorem dL_sound_402 : decode cL_sound 402 = .ok (.iload_n 1, 1) := by decide +kernel
theorem dL_sound_403 : decode cL_sound 403 = .ok (.ifCond .eq 14, 3) := by decide +kernel
theorem dL_sound_406 : decode cL_sound 406 = .ok (.aload_n 0, 1) := by decide +kernel
theorem dL_sound_407 : decode cL_sound 407 = .ok (.iconst 5, 1) := by decide +kernel
theorem dL_sound_408 : decode cL_sound 408 = .ok (.invokestatic 139, 3) := by decide +kernel
theorem dL_sound_411 : decode cL_sound 411 = .ok (.iload_n 1, 1) := by decide +kernel
theorem dL_sound_412 : decode cL_sound 412 = .ok (.iconst 1, 1) := by decide +kernel
theorem dL_sound_413 : decode cL_sound 413 = .ok (.isub, 1) := by decide +kernel
theorem dL_sound_414 : decode cL_sound 414 = .ok (.if_icmp .le 84, 3) := by decide +kernel
theorem dL_sound_417 : decode cL_sound 417 = .ok (.aload_n 0, 1) := by decide +kernel
theorem dL_sound_418 : decode cL_sound 418 = .ok (.bipush 18, 2) := by decide +kernel
theorem dL_sound_420 : decode cL_sound 420 = .ok (.invokestatic 127, 3) := by decide +kernel
theorem dL_sound_423 : decode cL_sound 423 = .ok (.ifCond .lt 75, 3) := by decide +kernel
theorem dL_sound_426 : decode cL_sound 426 = .ok (.aload_n 0, 1) := by decide +kernel
theorem dL_sound_427 : decode cL_sound 427 = .ok (.bipush 18, 2) := by decide +kernel
theorem dL_sound_429 : decode cL_sound 429 = .ok (.invokestatic 127, 3) := by decide +kernel
theorem dL_sound_432 : decode cL_sound 432 = .ok (.bipush 8, 2) := by decide +kernel
theorem dL_sound_434 : decode cL_sound 434 = .ok (.if_icmp .gt 64, 3) := by decide +kernel
theorem dL_sound_437 : decode cL_sound 437 = .ok (.aload_n 0, 1) := by decide +kernel
theorem dL_sound_438 : decode cL_sound 438 = .ok (.bipush 11, 2) := by decide +kernel
theorem dL_sound_440 : decode cL_sound 440 = .ok (.invokestatic 127, 3) := by decide +kernel
theorem dL_sound_443 : decode cL_sound 443 = .ok (.iconst 1, 1) := by decide +kernel
theorem dL_sound_444 : decode cL_sound 444 = .ok (.if_icmp .eq 12, 3) := by decide +kernel
theorem dL_sound_447 : decode cL_sound 447 = .ok (.aload_n 0, 1) := by decide +kernel
theorem dL_sound_448 : decode cL_sound 448 = .ok (.bipush 14, 2) := by decide +kernel
theorem dL_sound_450 : decode cL_sound 450 = .ok (.invokestatic 127, 3) := by decide +kernel
theorem dL_sound_453 : decode cL_sound 453 = .ok (.ifCond .ne 45, 3) := by decide +kernel
theorem dL_sound_456 : decode cL_sound 456 = .ok (.aload_n 0, 1) := by decide +kernel
theorem dL_sound_457 : decode cL_sound 457 = .ok (.bipush 15, 2) := by decide +kernel
theorem dL_sound_459 : decode cL_sound 459 = .ok (.invokestatic 127, 3) := by decide +kernel
theorem dL_sound_462 : decode cL_sound 462 = .ok (.invokestatic 120, 3) := by decide +kernel
theorem dL_sound_465 : decode cL_sound 465 = .ok (.sipush 9999, 3) := by decide +kernel
theorem dL_sound_468 : decode cL_sound 468 = .ok (.if_icmp .gt 30, 3) := by decide +kernel
theorem dL_sound_471 : decode cL_sound 471 = .ok (.aload_n 0, 1) := by decide +kernel
theorem dL_sound_472 : decode cL_sound 472 = .ok (.bipush 19, 2) := by decide +kernel
theorem dL_sound_474 : decode cL_sound 474 = .ok (.invokestatic 127, 3) := by decide +kernel
theorem dL_sound_477 : decode cL_sound 477 = .ok (.ifCond .lt 21, 3) := by decide +kernel
theorem dL_sound_480 : decode cL_sound 480 = .ok (.aload_n 0, 1) := by decide +kernel
theorem dL_sound_481 : decode cL_sound 481 = .ok (.bipush 19, 2) := by decide +kernel
theorem dL_sound_483 : decode cL_sound 483 = .ok (.invokestatic 127, 3) := by decide +kernel
theorem dL_sound_486 : decode cL_sound 486 = .ok (.aload_n 0, 1) := by decide +kernel
theorem dL_sound_487 : decode cL_sound 487 = .ok (.iconst 4, 1) := by decide +kernel
theorem dL_sound_488 : decode cL_sound 488 = .ok (.invokestatic 127, 3) := by decide +kernel
theorem dL_sound_491 : decode cL_sound 491 = .ok (.if_icmp .gt 7, 3) := by decide +kernel
theorem dL_sound_494 : decode cL_sound 494 = .ok (.iconst 1, 1) := by decide +kernel
theorem dL_sound_495 : decode cL_sound 495 = .ok (.goto 4, 3) := by decide +kernel
theorem dL_sound_498 : decode cL_sound 498 = .ok (.iconst 0, 1) := by decide +kernel
theorem dL_sound_499 : decode cL_sound 499 = .ok (.ireturn, 1) := by decide +kernel
theorem dL_ticks_0 : decode cL_ticks 0 = .ok (.iconst 1, 1) := by decide +kernel
theorem dL_ticks_1 : decode cL_ticks 1 = .ok (.iload_n 1, 1) := by decide +kernel
theorem dL_ticks_2 : decode cL_ticks 2 = .ok (.bipush 30, 2) := by decide +kernel
theorem dL_ticks_4 : decode cL_ticks 4 = .ok (.irem, 1) := by decide +kernel
theorem dL_ticks_5 : decode cL_ticks 5 = .ok (.iadd, 1) := by decide +kernel
theorem dL_ticks_6 : decode cL_ticks 6 = .ok (.istore_n 2, 1) := by decide +kernel
theorem dL_ticks_7 : decode cL_ticks 7 = .ok (.aload_n 0, 1) := by decide +kernel
theorem dL_ticks_8 : decode cL_ticks 8 = .ok (.iload_n 2, 1) := by decide +kernel
theorem dL_ticks_9 : decode cL_ticks 9 = .ok (.iconst 0, 1) := by decide +kernel
theorem dL_ticks_10 : decode cL_ticks 10 = .ok (.invokestatic 173, 3) := by decide +kernel
theorem dL_ticks_13 : decode cL_ticks 13 = .ok (.istore_n 3, 1) := by decide +kernel
theorem dL_ticks_14 : decode cL_ticks 14 = .ok (.aload_n 0, 1) := by decide +kernel
theorem dL_ticks_15 : decode cL_ticks 15 = .ok (.iload_n 2, 1) := by decide +kernel
theorem dL_ticks_16 : decode cL_ticks 16 = .ok (.iconst 1, 1) := by decide +kernel
theorem dL_ticks_17 : decode cL_ticks 17 = .ok (.invokestatic 173, 3) := by decide +kernel
theorem dL_ticks_20 : decode cL_ticks 20 = .ok (.istore 4, 2) := by decide +kernel
theorem dL_ticks_22 : decode cL_ticks 22 = .ok (.aload_n 0, 1) := by decide +kernel
theorem dL_ticks_23 : decode cL_ticks 23 = .ok (.iload_n 2, 1) := by decide +kernel
theorem dL_ticks_24 : decode cL_ticks 24 = .ok (.iconst 2, 1) := by decide +kernel
theorem dL_ticks_25 : decode cL_ticks 25 = .ok (.invokestatic 173, 3) := by decide +kernel
theorem dL_ticks_28 : decode cL_ticks 28 = .ok (.istore 5, 2) := by decide +kernel
theorem dL_ticks_30 : decode cL_ticks 30 = .ok (.aload_n 0, 1) := by decide +kernel
theorem dL_ticks_31 : decode cL_ticks 31 = .ok (.iload_n 2, 1) := by decide +kernel
theorem dL_ticks_32 : decode cL_ticks 32 = .ok (.iconst 3, 1) := by decide +kernel
theorem dL_ticks_33 : decode cL_ticks 33 = .ok (.invokestatic 173, 3) := by decide +kernel
theorem dL_ticks_36 : decode cL_ticks 36 = .ok (.istore 6, 2) := by decide +kernel
theorem dL_ticks_38 : decode cL_ticks 38 = .ok (.aload_n 0, 1) := by decide +kernel
theorem dL_ticks_39 : decode cL_ticks 39 = .ok (.iload_n 2, 1) := by decide +kernel
theorem dL_ticks_40 : decode cL_ticks 40 = .ok (.iconst 4, 1) := by decide +kernel
theorem dL_ticks_41 : decode cL_ticks 41 = .ok (.invokestatic 173, 3) := by decide +kernel
theorem dL_ticks_44 : decode cL_ticks 44 = .ok (.istore 7, 2) := by decide +kernel
theorem dL_ticks_46 : decode cL_ticks 46 = .ok (.iconst 0, 1) := by decide +kernel
theorem dL_ticks_47 : decode cL_ticks 47 = .ok (.istore 8, 2) := by decide +kernel
theorem dL_ticks_49 : decode cL_ticks 49 = .ok (.ldc 119, 2) := by decide +kernel
theorem dL_ticks_51 : decode cL_ticks 51 = .ok (.istore 9, 2) := by decide +kernel
theorem dL_ticks_53 : decode cL_ticks 53 = .ok (.iconst 0, 1) := by decide +kernel
theorem dL_ticks_54 : decode cL_ticks 54 = .ok (.istore 10, 2) := by decide +kernel
theorem dL_ticks_56 : decode cL_ticks 56 = .ok (.aload_n 0, 1) := by decide +kernel
theorem dL_ticks_57 : decode cL_ticks 57 = .ok (.iconst 0, 1) := by decide +kernel
theorem dL_ticks_58 : decode cL_ticks 58 = .ok (.iconst 0, 1) := by decide +kernel
theorem dL_ticks_59 : decode cL_ticks 59 = .ok (.invokestatic 173, 3) := by decide +kernel
theorem dL_ticks_62 : decode cL_ticks 62 = .ok (.aload_n 0, 1) := by decide +kernel
theorem dL_ticks_63 : decode cL_ticks 63 = .ok (.bipush 12, 2) := by decide +kernel
theorem dL_ticks_65 : decode cL_ticks 65 = .ok (.invokestatic 127, 3) := by decide +kernel
theorem dL_ticks_68 : decode cL_ticks 68 = .ok (.if_icmp .ne 27, 3) := by decide +kernel
theorem dL_ticks_71 : decode cL_ticks 71 = .ok (.aload_n 0, 1) := by decide +kernel
theorem dL_ticks_72 : decode cL_ticks 72 = .ok (.iconst 0, 1) := by decide +kernel
theorem dL_ticks_73 : decode cL_ticks 73 = .ok (.iconst 2, 1) := by decide +kernel
theorem dL_ticks_74 : decode cL_ticks 74 = .ok (.invokestatic 173, 3) := by decide +kernel
theorem dL_ticks_77 : decode cL_ticks 77 = .ok (.ldc 119, 2) := by decide +kernel
theorem dL_ticks_79 : decode cL_ticks 79 = .ok (.if_icmp .ne 16, 3) := by decide +kernel
theorem dL_ticks_82 : decode cL_ticks 82 = .ok (.aload_n 0, 1) := by decide +kernel
theorem dL_ticks_83 : decode cL_ticks 83 = .ok (.iconst 0, 1) := by decide +kernel
theorem dL_ticks_84 : decode cL_ticks 84 = .ok (.iconst 4, 1) := by decide +kernel
theorem dL_ticks_85 : decode cL_ticks 85 = .ok (.invokestatic 173, 3) := by decide +kernel
theorem dL_ticks_88 : decode cL_ticks 88 = .ok (.ifCond .ne 7, 3) := by decide +kernel
theorem dL_ticks_91 : decode cL_ticks 91 = .ok (.iconst 1, 1) := by decide +kernel
theorem dL_ticks_92 : decode cL_ticks 92 = .ok (.goto 4, 3) := by decide +kernel
theorem dL_ticks_95 : decode cL_ticks 95 = .ok (.iconst 0, 1) := by decide +kernel
theorem dL_ticks_96 : decode cL_ticks 96 = .ok (.istore 11, 2) := by decide +kernel
theorem dL_ticks_98 : decode cL_ticks 98 = .ok (.iconst 0, 1) := by decide +kernel
theorem dL_ticks_99 : decode cL_ticks 99 = .ok (.istore 12, 2) := by decide +kernel
theorem dL_ticks_101 : decode cL_ticks 101 = .ok (.iload 12, 2) := by decide +kernel
theorem dL_ticks_103 : decode cL_ticks 103 = .ok (.iload_n 2, 1) := by decide +kernel
theorem dL_ticks_104 : decode cL_ticks 104 = .ok (.if_icmp .ge 417, 3) := by decide +kernel
theorem dL_ticks_107 : decode cL_ticks 107 = .ok (.iload 11, 2) := by decide +kernel
theorem dL_ticks_109 : decode cL_ticks 109 = .ok (.ifCond .eq 412, 3) := by decide +kernel
theorem dL_ticks_112 : decode cL_ticks 112 = .ok (.aload_n 0, 1) := by decide +kernel
theorem dL_ticks_113 : decode cL_ticks 113 = .ok (.bipush 12, 2) := by decide +kernel
theorem dL_ticks_115 : decode cL_ticks 115 = .ok (.invokestatic 127, 3) := by decide +kernel
theorem dL_ticks_118 : decode cL_ticks 118 = .ok (.istore 13, 2) := by decide +kernel
theorem dL_ticks_120 : decode cL_ticks 120 = .ok (.aload_n 0, 1) := by decide +kernel
theorem dL_ticks_121 : decode cL_ticks 121 = .ok (.bipush 11, 2) := by decide +kernel
theorem dL_ticks_123 : decode cL_ticks 123 = .ok (.invokestatic 127, 3) := by decide +kernel
theorem dL_ticks_126 : decode cL_ticks 126 = .ok (.istore 14, 2) := by decide +kernel
theorem dL_ticks_128 : decode cL_ticks 128 = .ok (.aload_n 0, 1) := by decide +kernel
theorem dL_ticks_129 : decode cL_ticks 129 = .ok (.iconst 5, 1) := by decide +kernel
theorem dL_ticks_130 : decode cL_ticks 130 = .ok (.invokestatic 127, 3) := by decide +kernel
theorem dL_ticks_133 : decode cL_ticks 133 = .ok (.istore 15, 2) := by decide +kernel
theorem dL_ticks_135 : decode cL_ticks 135 = .ok (.aload_n 0, 1) := by decide +kernel
theorem dL_ticks_136 : decode cL_ticks 136 = .ok (.bipush 6, 2) := by decide +kernel
theorem dL_ticks_138 : decode cL_ticks 138 = .ok (.invokestatic 127, 3) := by decide +kernel
theorem dL_ticks_141 : decode cL_ticks 141 = .ok (.istore 16, 2) := by decide +kernel
theorem dL_ticks_143 : decode cL_ticks 143 = .ok (.aload_n 0, 1) := by decide +kernel
theorem dL_ticks_144 : decode cL_ticks 144 = .ok (.iconst 4, 1) := by decide +kernel
theorem dL_ticks_145 : decode cL_ticks 145 = .ok (.invokestatic 127, 3) := by decide +kernel
theorem dL_ticks_148 : decode cL_ticks 148 = .ok (.istore 17, 2) := by decide +kernel
theorem dL_ticks_150 : decode cL_ticks 150 = .ok (.aload_n 0, 1) := by decide +kernel
theorem dL_ticks_151 : decode cL_ticks 151 = .ok (.bipush 14, 2) := by decide +kernel
theorem dL_ticks_153 : decode cL_ticks 153 = .ok (.invokestatic 127, 3) := by decide +kernel
theorem dL_ticks_156 : decode cL_ticks 156 = .ok (.istore 18, 2) := by decide +kernel
theorem dL_ticks_158 : decode cL_ticks 158 = .ok (.aload_n 0, 1) := by decide +kernel
theorem dL_ticks_159 : decode cL_ticks 159 = .ok (.iconst 5, 1) := by decide +kernel
theorem dL_ticks_160 : decode cL_ticks 160 = .ok (.invokestatic 139, 3) := by decide +kernel
theorem dL_ticks_163 : decode cL_ticks 163 = .ok (.istore 19, 2) := by decide +kernel
theorem dL_ticks_165 : decode cL_ticks 165 = .ok (.aload_n 0, 1) := by decide +kernel
theorem dL_ticks_166 : decode cL_ticks 166 = .ok (.bipush 19, 2) := by decide +kernel
theorem dL_ticks_168 : decode cL_ticks 168 = .ok (.invokestatic 127, 3) := by decide +kernel
theorem dL_ticks_171 : decode cL_ticks 171 = .ok (.istore 20, 2) := by decide +kernel
theorem dL_ticks_173 : decode cL_ticks 173 = .ok (.aload_n 0, 1) := by decide +kernel
theorem dL_ticks_174 : decode cL_ticks 174 = .ok (.iconst 4, 1) := by decide +kernel
theorem dL_ticks_175 : decode cL_ticks 175 = .ok (.invokestatic 139, 3) := by decide +kernel
theorem dL_ticks_178 : decode cL_ticks 178 = .ok (.istore 21, 2) := by decide +kernel
theorem dL_ticks_180 : decode cL_ticks 180 = .ok (.aload_n 0, 1) := by decide +kernel
theorem dL_ticks_181 : decode cL_ticks 181 = .ok (.bipush 15, 2) := by decide +kernel
theorem dL_ticks_183 : decode cL_ticks 183 = .ok (.invokestatic 127, 3) := by decide +kernel
theorem dL_ticks_186 : decode cL_ticks 186 = .ok (.istore 22, 2) := by decide +kernel
theorem dL_ticks_188 : decode cL_ticks 188 = .ok (.aload_n 0, 1) := by decide +kernel
theorem dL_ticks_189 : decode cL_ticks 189 = .ok (.iconst 1, 1) := by decide +kernel
theorem dL_ticks_190 : decode cL_ticks 190 = .ok (.invokestatic 150, 3) := by decide +kernel
theorem dL_ticks_193 : decode cL_ticks 193 = .ok (.istore 23, 2) := by decide +kernel
theorem dL_ticks_195 : decode cL_ticks 195 = .ok (.aload_n 0, 1) := by decide +kernel
theorem dL_ticks_196 : decode cL_ticks 196 = .ok (.bipush 19, 2) := by decide +kernel
theorem dL_ticks_198 : decode cL_ticks 198 = .ok (.invokestatic 127, 3) := by decide +kernel
theorem dL_ticks_201 : decode cL_ticks 201 = .ok (.istore 24, 2) := by decide +kernel
theorem dL_ticks_203 : decode cL_ticks 203 = .ok (.iload 23, 2) := by decide +kernel
theorem dL_ticks_205 : decode cL_ticks 205 = .ok (.iload 13, 2) := by decide +kernel
theorem dL_ticks_207 : decode cL_ticks 207 = .ok (.if_icmp .le 7, 3) := by decide +kernel
theorem dL_ticks_210 : decode cL_ticks 210 = .ok (.iconst 1, 1) := by decide +kernel
theorem dL_ticks_211 : decode cL_ticks 211 = .ok (.goto 4, 3) := by decide +kernel
theorem dL_ticks_214 : decode cL_ticks 214 = .ok (.iconst 0, 1) := by decide +kernel
theorem dL_ticks_215 : decode cL_ticks 215 = .ok (.istore 25, 2) := by decide +kernel
theorem dL_ticks_217 : decode cL_ticks 217 = .ok (.iload 13, 2) := by decide +kernel
theorem dL_ticks_219 : decode cL_ticks 219 = .ok (.iload 15, 2) := by decide +kernel
theorem dL_ticks_221 : decode cL_ticks 221 = .ok (.iload 16, 2) := by decide +kernel
theorem dL_ticks_223 : decode cL_ticks 223 = .ok (.iadd, 1) := by decide +kernel
theorem dL_ticks_224 : decode cL_ticks 224 = .ok (.if_icmp .lt 7, 3) := by decide +kernel
theorem dL_ticks_227 : decode cL_ticks 227 = .ok (.iconst 0, 1) := by decide +kernel
theorem dL_ticks_228 : decode cL_ticks 228 = .ok (.goto 24, 3) := by decide +kernel
theorem dL_ticks_231 : decode cL_ticks 231 = .ok (.iload 13, 2) := by decide +kernel
theorem dL_ticks_233 : decode cL_ticks 233 = .ok (.iload 15, 2) := by decide +kernel
theorem dL_ticks_235 : decode cL_ticks 235 = .ok (.iload 16, 2) := by decide +kernel
theorem dL_ticks_237 : decode cL_ticks 237 = .ok (.isub, 1) := by decide +kernel
theorem dL_ticks_238 : decode cL_ticks 238 = .ok (.if_icmp .le 9, 3) := by decide +kernel
theorem dL_ticks_241 : decode cL_ticks 241 = .ok (.iload 18, 2) := by decide +kernel
theorem dL_ticks_243 : decode cL_ticks 243 = .ok (.iconst 1, 1) := by decide +kernel
theorem dL_ticks_244 : decode cL_ticks 244 = .ok (.if_icmp .ne 7, 3) := by decide +kernel
theorem dL_ticks_247 : decode cL_ticks 247 = .ok (.iconst 1, 1) := by decide +kernel
theorem dL_ticks_248 : decode cL_ticks 248 = .ok (.goto 4, 3) := by decide +kernel
theorem dL_ticks_251 : decode cL_ticks 251 = .ok (.iconst 0, 1) := by decide +kernel
theorem dL_ticks_252 : decode cL_ticks 252 = .ok (.istore 26, 2) := by decide +kernel
theorem dL_ticks_254 : decode cL_ticks 254 = .ok (.iload 8, 2) := by decide +kernel
theorem dL_ticks_256 : decode cL_ticks 256 = .ok (.iload 24, 2) := by decide +kernel
theorem dL_ticks_258 : decode cL_ticks 258 = .ok (.iadd, 1) := by decide +kernel
theorem dL_ticks_259 : decode cL_ticks 259 = .ok (.istore 8, 2) := by decide +kernel
theorem dL_ticks_261 : decode cL_ticks 261 = .ok (.iload 23, 2) := by decide +kernel
theorem dL_ticks_263 : decode cL_ticks 263 = .ok (.iload 9, 2) := by decide +kernel
theorem dL_ticks_265 : decode cL_ticks 265 = .ok (.if_icmp .le 8, 3) := by decide +kernel
theorem dL_ticks_268 : decode cL_ticks 268 = .ok (.iload 23, 2) := by decide +kernel
theorem dL_ticks_270 : decode cL_ticks 270 = .ok (.goto 5, 3) := by decide +kernel
theorem dL_ticks_273 : decode cL_ticks 273 = .ok (.iload 9, 2) := by decide +kernel
theorem dL_ticks_275 : decode cL_ticks 275 = .ok (.istore 9, 2) := by decide +kernel
theorem dL_ticks_277 : decode cL_ticks 277 = .ok (.iload 10, 2) := by decide +kernel
theorem dL_ticks_279 : decode cL_ticks 279 = .ok (.iload 15, 2) := by decide +kernel
theorem dL_ticks_281 : decode cL_ticks 281 = .ok (.iload 23, 2) := by decide +kernel
theorem dL_ticks_283 : decode cL_ticks 283 = .ok (.isub, 1) := by decide +kernel
theorem dL_ticks_284 : decode cL_ticks 284 = .ok (.invokestatic 120, 3) := by decide +kernel
theorem dL_ticks_287 : decode cL_ticks 287 = .ok (.iadd, 1) := by decide +kernel
theorem dL_ticks_288 : decode cL_ticks 288 = .ok (.istore 10, 2) := by decide +kernel
theorem dL_ticks_290 : decode cL_ticks 290 = .ok (.iload 23, 2) := by decide +kernel
theorem dL_ticks_292 : decode cL_ticks 292 = .ok (.aload_n 0, 1) := by decide +kernel
theorem dL_ticks_293 : decode cL_ticks 293 = .ok (.bipush 12, 2) := by decide +kernel
theorem dL_ticks_295 : decode cL_ticks 295 = .ok (.invokestatic 127, 3) := by decide +kernel
theorem dL_ticks_298 : decode cL_ticks 298 = .ok (.if_icmp .ne 214, 3) := by decide +kernel
theorem dL_ticks_301 : decode cL_ticks 301 = .ok (.aload_n 0, 1) := by decide +kernel
theorem dL_ticks_302 : decode cL_ticks 302 = .ok (.iconst 4, 1) := by decide +kernel
theorem dL_ticks_303 : decode cL_ticks 303 = .ok (.invokestatic 139, 3) := by decide +kernel
theorem dL_ticks_306 : decode cL_ticks 306 = .ok (.iload 21, 2) := by decide +kernel
theorem dL_ticks_308 : decode cL_ticks 308 = .ok (.iload 24, 2) := by decide +kernel
theorem dL_ticks_310 : decode cL_ticks 310 = .ok (.iload 20, 2) := by decide +kernel
theorem dL_ticks_312 : decode cL_ticks 312 = .ok (.if_icmp .ne 7, 3) := by decide +kernel
theorem dL_ticks_315 : decode cL_ticks 315 = .ok (.iconst 0, 1) := by decide +kernel
theorem dL_ticks_316 : decode cL_ticks 316 = .ok (.goto 4, 3) := by decide +kernel
theorem dL_ticks_319 : decode cL_ticks 319 = .ok (.iconst 1, 1) := by decide +kernel
theorem dL_ticks_320 : decode cL_ticks 320 = .ok (.iadd, 1) := by decide +kernel
theorem dL_ticks_321 : decode cL_ticks 321 = .ok (.if_icmp .ne 191, 3) := by decide +kernel
theorem dL_ticks_324 : decode cL_ticks 324 = .ok (.iload 14, 2) := by decide +kernel
theorem dL_ticks_326 : decode cL_ticks 326 = .ok (.ifCond .ne 8, 3) := by decide +kernel
theorem dL_ticks_329 : decode cL_ticks 329 = .ok (.iload 24, 2) := by decide +kernel
theorem dL_ticks_331 : decode cL_ticks 331 = .ok (.ifCond .ne 181, 3) := by decide +kernel
theorem dL_ticks_334 : decode cL_ticks 334 = .ok (.iload 14, 2) := by decide +kernel
