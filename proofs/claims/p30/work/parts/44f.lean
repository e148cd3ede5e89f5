theorem dL_scripts_316 : decode cL_scripts 316 = .ok (.ladd, 1) := by decide +kernel
theorem dL_scripts_317 : decode cL_scripts 317 = .ok (.invokestatic 186, 3) := by decide +kernel
theorem dL_scripts_320 : decode cL_scripts 320 = .ok (.ldc 119, 2) := by decide +kernel
theorem dL_scripts_322 : decode cL_scripts 322 = .ok (.if_icmp .ne 55, 3) := by decide +kernel
theorem dL_scripts_325 : decode cL_scripts 325 = .ok (.aload_n 0, 1) := by decide +kernel
theorem dL_scripts_326 : decode cL_scripts 326 = .ok (.iconst 1, 1) := by decide +kernel
theorem dL_scripts_327 : decode cL_scripts 327 = .ok (.ldc2_w 254, 3) := by decide +kernel
theorem dL_scripts_330 : decode cL_scripts 330 = .ok (.invokestatic 186, 3) := by decide +kernel
theorem dL_scripts_333 : decode cL_scripts 333 = .ok (.ifCond .ne 44, 3) := by decide +kernel
theorem dL_scripts_336 : decode cL_scripts 336 = .ok (.aload_n 0, 1) := by decide +kernel
theorem dL_scripts_337 : decode cL_scripts 337 = .ok (.iconst 1, 1) := by decide +kernel
theorem dL_scripts_338 : decode cL_scripts 338 = .ok (.lconst 0, 1) := by decide +kernel
theorem dL_scripts_339 : decode cL_scripts 339 = .ok (.invokestatic 186, 3) := by decide +kernel
theorem dL_scripts_342 : decode cL_scripts 342 = .ok (.ifCond .ne 35, 3) := by decide +kernel
theorem dL_scripts_345 : decode cL_scripts 345 = .ok (.aload_n 0, 1) := by decide +kernel
theorem dL_scripts_346 : decode cL_scripts 346 = .ok (.iconst 1, 1) := by decide +kernel
theorem dL_scripts_347 : decode cL_scripts 347 = .ok (.ldc2_w 256, 3) := by decide +kernel
theorem dL_scripts_350 : decode cL_scripts 350 = .ok (.invokestatic 186, 3) := by decide +kernel
theorem dL_scripts_353 : decode cL_scripts 353 = .ok (.ifCond .ne 24, 3) := by decide +kernel
theorem dL_scripts_356 : decode cL_scripts 356 = .ok (.iload 5, 2) := by decide +kernel
theorem dL_scripts_358 : decode cL_scripts 358 = .ok (.aload_n 0, 1) := by decide +kernel
theorem dL_scripts_359 : decode cL_scripts 359 = .ok (.iload_n 1, 1) := by decide +kernel
theorem dL_scripts_360 : decode cL_scripts 360 = .ok (.i2l, 1) := by decide +kernel
theorem dL_scripts_361 : decode cL_scripts 361 = .ok (.ldc2_w 212, 3) := by decide +kernel
theorem dL_scripts_364 : decode cL_scripts 364 = .ok (.lmul, 1) := by decide +kernel
theorem dL_scripts_365 : decode cL_scripts 365 = .ok (.bipush 15, 2) := by decide +kernel
theorem dL_scripts_367 : decode cL_scripts 367 = .ok (.invokestatic 192, 3) := by decide +kernel
theorem dL_scripts_370 : decode cL_scripts 370 = .ok (.if_icmp .ne 7, 3) := by decide +kernel
theorem dL_scripts_373 : decode cL_scripts 373 = .ok (.iconst 1, 1) := by decide +kernel
theorem dL_scripts_374 : decode cL_scripts 374 = .ok (.goto 4, 3) := by decide +kernel
theorem dL_scripts_377 : decode cL_scripts 377 = .ok (.iconst 0, 1) := by decide +kernel
theorem dL_scripts_378 : decode cL_scripts 378 = .ok (.istore 6, 2) := by decide +kernel
theorem dL_scripts_380 : decode cL_scripts 380 = .ok (.iload 6, 2) := by decide +kernel
theorem dL_scripts_382 : decode cL_scripts 382 = .ok (.ifCond .eq 102, 3) := by decide +kernel
theorem dL_scripts_385 : decode cL_scripts 385 = .ok (.iload_n 2, 1) := by decide +kernel
theorem dL_scripts_386 : decode cL_scripts 386 = .ok (.ifCond .lt 26, 3) := by decide +kernel
theorem dL_scripts_389 : decode cL_scripts 389 = .ok (.iload_n 2, 1) := by decide +kernel
theorem dL_scripts_390 : decode cL_scripts 390 = .ok (.sipush 999, 3) := by decide +kernel
theorem dL_scripts_393 : decode cL_scripts 393 = .ok (.if_icmp .gt 19, 3) := by decide +kernel
theorem dL_scripts_396 : decode cL_scripts 396 = .ok (.aload_n 0, 1) := by decide +kernel
theorem dL_scripts_397 : decode cL_scripts 397 = .ok (.iconst 1, 1) := by decide +kernel
theorem dL_scripts_398 : decode cL_scripts 398 = .ok (.ldc2_w 258, 3) := by decide +kernel
theorem dL_scripts_401 : decode cL_scripts 401 = .ok (.iload_n 2, 1) := by decide +kernel
theorem dL_scripts_402 : decode cL_scripts 402 = .ok (.i2l, 1) := by decide +kernel
theorem dL_scripts_403 : decode cL_scripts 403 = .ok (.ladd, 1) := by decide +kernel
theorem dL_scripts_404 : decode cL_scripts 404 = .ok (.invokestatic 186, 3) := by decide +kernel
theorem dL_scripts_407 : decode cL_scripts 407 = .ok (.ldc 119, 2) := by decide +kernel
theorem dL_scripts_409 : decode cL_scripts 409 = .ok (.if_icmp .ne 75, 3) := by decide +kernel
theorem dL_scripts_412 : decode cL_scripts 412 = .ok (.iload_n 2, 1) := by decide +kernel
theorem dL_scripts_413 : decode cL_scripts 413 = .ok (.ifCond .lt 24, 3) := by decide +kernel
theorem dL_scripts_416 : decode cL_scripts 416 = .ok (.iload_n 2, 1) := by decide +kernel
theorem dL_scripts_417 : decode cL_scripts 417 = .ok (.sipush 998, 3) := by decide +kernel
theorem dL_scripts_420 : decode cL_scripts 420 = .ok (.if_icmp .gt 17, 3) := by decide +kernel
theorem dL_scripts_423 : decode cL_scripts 423 = .ok (.aload_n 0, 1) := by decide +kernel
theorem dL_scripts_424 : decode cL_scripts 424 = .ok (.iconst 1, 1) := by decide +kernel
theorem dL_scripts_425 : decode cL_scripts 425 = .ok (.ldc2_w 260, 3) := by decide +kernel
theorem dL_scripts_428 : decode cL_scripts 428 = .ok (.iload_n 2, 1) := by decide +kernel
theorem dL_scripts_429 : decode cL_scripts 429 = .ok (.i2l, 1) := by decide +kernel
theorem dL_scripts_430 : decode cL_scripts 430 = .ok (.ladd, 1) := by decide +kernel
theorem dL_scripts_431 : decode cL_scripts 431 = .ok (.invokestatic 186, 3) := by decide +kernel
theorem dL_scripts_434 : decode cL_scripts 434 = .ok (.ifCond .ne 50, 3) := by decide +kernel
theorem dL_scripts_437 : decode cL_scripts 437 = .ok (.iload_n 2, 1) := by decide +kernel
theorem dL_scripts_438 : decode cL_scripts 438 = .ok (.ifCond .gt 26, 3) := by decide +kernel
theorem dL_scripts_441 : decode cL_scripts 441 = .ok (.iload_n 2, 1) := by decide +kernel
theorem dL_scripts_442 : decode cL_scripts 442 = .ok (.sipush (-999), 3) := by decide +kernel
theorem dL_scripts_445 : decode cL_scripts 445 = .ok (.if_icmp .lt 19, 3) := by decide +kernel
theorem dL_scripts_448 : decode cL_scripts 448 = .ok (.aload_n 0, 1) := by decide +kernel
theorem dL_scripts_449 : decode cL_scripts 449 = .ok (.iconst 1, 1) := by decide +kernel
theorem dL_scripts_450 : decode cL_scripts 450 = .ok (.ldc2_w 262, 3) := by decide +kernel
theorem dL_scripts_453 : decode cL_scripts 453 = .ok (.iload_n 2, 1) := by decide +kernel
theorem dL_scripts_454 : decode cL_scripts 454 = .ok (.i2l, 1) := by decide +kernel
theorem dL_scripts_455 : decode cL_scripts 455 = .ok (.lsub, 1) := by decide +kernel
theorem dL_scripts_456 : decode cL_scripts 456 = .ok (.invokestatic 186, 3) := by decide +kernel
theorem dL_scripts_459 : decode cL_scripts 459 = .ok (.ldc 119, 2) := by decide +kernel
theorem dL_scripts_461 : decode cL_scripts 461 = .ok (.if_icmp .ne 23, 3) := by decide +kernel
theorem dL_scripts_464 : decode cL_scripts 464 = .ok (.iload_n 2, 1) := by decide +kernel
theorem dL_scripts_465 : decode cL_scripts 465 = .ok (.iconst (-1), 1) := by decide +kernel
theorem dL_scripts_466 : decode cL_scripts 466 = .ok (.if_icmp .gt 14, 3) := by decide +kernel
theorem dL_scripts_469 : decode cL_scripts 469 = .ok (.aload_n 0, 1) := by decide +kernel
theorem dL_scripts_470 : decode cL_scripts 470 = .ok (.iconst 1, 1) := by decide +kernel
theorem dL_scripts_471 : decode cL_scripts 471 = .ok (.ldc2_w 258, 3) := by decide +kernel
theorem dL_scripts_474 : decode cL_scripts 474 = .ok (.invokestatic 186, 3) := by decide +kernel
theorem dL_scripts_477 : decode cL_scripts 477 = .ok (.ifCond .ne 7, 3) := by decide +kernel
theorem dL_scripts_480 : decode cL_scripts 480 = .ok (.iconst 1, 1) := by decide +kernel
theorem dL_scripts_481 : decode cL_scripts 481 = .ok (.goto 4, 3) := by decide +kernel
theorem dL_scripts_484 : decode cL_scripts 484 = .ok (.iconst 0, 1) := by decide +kernel
theorem dL_scripts_485 : decode cL_scripts 485 = .ok (.ireturn, 1) := by decide +kernel
theorem dL_act_0 : decode cL_act 0 = .ok (.aload_n 0, 1) := by decide +kernel
theorem dL_act_1 : decode cL_act 1 = .ok (.bipush 16, 2) := by decide +kernel
theorem dL_act_3 : decode cL_act 3 = .ok (.invokestatic 127, 3) := by decide +kernel
theorem dL_act_6 : decode cL_act 6 = .ok (.istore_n 3, 1) := by decide +kernel
theorem dL_act_7 : decode cL_act 7 = .ok (.iload_n 1, 1) := by decide +kernel
theorem dL_act_8 : decode cL_act 8 = .ok (.bipush 16, 2) := by decide +kernel
theorem dL_act_10 : decode cL_act 10 = .ok (.irem, 1) := by decide +kernel
theorem dL_act_11 : decode cL_act 11 = .ok (.tableswitch 277 0 14 #[73, 73, 73, 73, 73, 85, 96, 123, 196, 209, 235, 235, 243, 248, 272], 73) := by decide +kernel
theorem dL_act_84 : decode cL_act 84 = .ok (.aload_n 0, 1) := by decide +kernel
theorem dL_act_85 : decode cL_act 85 = .ok (.iconst 1, 1) := by decide +kernel
theorem dL_act_86 : decode cL_act 86 = .ok (.iload_n 2, 1) := by decide +kernel
theorem dL_act_87 : decode cL_act 87 = .ok (.sipush 200, 3) := by decide +kernel
theorem dL_act_90 : decode cL_act 90 = .ok (.irem, 1) := by decide +kernel
theorem dL_act_91 : decode cL_act 91 = .ok (.iadd, 1) := by decide +kernel
theorem dL_act_92 : decode cL_act 92 = .ok (.invokestatic 150, 3) := by decide +kernel
theorem dL_act_95 : decode cL_act 95 = .ok (.ireturn, 1) := by decide +kernel
theorem dL_act_96 : decode cL_act 96 = .ok (.aload_n 0, 1) := by decide +kernel
theorem dL_act_97 : decode cL_act 97 = .ok (.iconst 1, 1) := by decide +kernel
theorem dL_act_98 : decode cL_act 98 = .ok (.iload_n 2, 1) := by decide +kernel
theorem dL_act_99 : decode cL_act 99 = .ok (.bipush 20, 2) := by decide +kernel
theorem dL_act_101 : decode cL_act 101 = .ok (.irem, 1) := by decide +kernel
theorem dL_act_102 : decode cL_act 102 = .ok (.iadd, 1) := by decide +kernel
theorem dL_act_103 : decode cL_act 103 = .ok (.invokestatic 150, 3) := by decide +kernel
theorem dL_act_106 : decode cL_act 106 = .ok (.ireturn, 1) := by decide +kernel
theorem dL_act_107 : decode cL_act 107 = .ok (.aload_n 0, 1) := by decide +kernel
theorem dL_act_108 : decode cL_act 108 = .ok (.iload_n 2, 1) := by decide +kernel
theorem dL_act_109 : decode cL_act 109 = .ok (.iconst 4, 1) := by decide +kernel
theorem dL_act_110 : decode cL_act 110 = .ok (.irem, 1) := by decide +kernel
theorem dL_act_111 : decode cL_act 111 = .ok (.ifCond .ne 7, 3) := by decide +kernel
theorem dL_act_114 : decode cL_act 114 = .ok (.iconst 0, 1) := by decide +kernel
theorem dL_act_115 : decode cL_act 115 = .ok (.goto 15, 3) := by decide +kernel
theorem dL_act_118 : decode cL_act 118 = .ok (.iload_n 2, 1) := by decide +kernel
theorem dL_act_119 : decode cL_act 119 = .ok (.iconst 4, 1) := by decide +kernel
theorem dL_act_120 : decode cL_act 120 = .ok (.irem, 1) := by decide +kernel
theorem dL_act_121 : decode cL_act 121 = .ok (.iconst 1, 1) := by decide +kernel
theorem dL_act_122 : decode cL_act 122 = .ok (.if_icmp .ne 7, 3) := by decide +kernel
theorem dL_act_125 : decode cL_act 125 = .ok (.iconst 2, 1) := by decide +kernel
theorem dL_act_126 : decode cL_act 126 = .ok (.goto 4, 3) := by decide +kernel
theorem dL_act_129 : decode cL_act 129 = .ok (.iconst 1, 1) := by decide +kernel
theorem dL_act_130 : decode cL_act 130 = .ok (.invokestatic 136, 3) := by decide +kernel
theorem dL_act_133 : decode cL_act 133 = .ok (.ireturn, 1) := by decide +kernel
theorem dL_act_134 : decode cL_act 134 = .ok (.aload_n 0, 1) := by decide +kernel
theorem dL_act_135 : decode cL_act 135 = .ok (.iconst 5, 1) := by decide +kernel
theorem dL_act_136 : decode cL_act 136 = .ok (.iload_n 2, 1) := by decide +kernel
theorem dL_act_137 : decode cL_act 137 = .ok (.bipush 6, 2) := by decide +kernel
theorem dL_act_139 : decode cL_act 139 = .ok (.irem, 1) := by decide +kernel
theorem dL_act_140 : decode cL_act 140 = .ok (.iadd, 1) := by decide +kernel
theorem dL_act_141 : decode cL_act 141 = .ok (.iload_n 2, 1) := by decide +kernel
theorem dL_act_142 : decode cL_act 142 = .ok (.bipush 6, 2) := by decide +kernel
theorem dL_act_144 : decode cL_act 144 = .ok (.irem, 1) := by decide +kernel
theorem dL_act_145 : decode cL_act 145 = .ok (.ifCond .ne 14, 3) := by decide +kernel
theorem dL_act_148 : decode cL_act 148 = .ok (.iload_n 2, 1) := by decide +kernel
theorem dL_act_149 : decode cL_act 149 = .ok (.bipush 8, 2) := by decide +kernel
theorem dL_act_151 : decode cL_act 151 = .ok (.idiv, 1) := by decide +kernel
theorem dL_act_152 : decode cL_act 152 = .ok (.sipush 200, 3) := by decide +kernel
theorem dL_act_155 : decode cL_act 155 = .ok (.irem, 1) := by decide +kernel
theorem dL_act_156 : decode cL_act 156 = .ok (.goto 47, 3) := by decide +kernel
theorem dL_act_159 : decode cL_act 159 = .ok (.iload_n 2, 1) := by decide +kernel
theorem dL_act_160 : decode cL_act 160 = .ok (.bipush 6, 2) := by decide +kernel
theorem dL_act_162 : decode cL_act 162 = .ok (.irem, 1) := by decide +kernel
theorem dL_act_163 : decode cL_act 163 = .ok (.iconst 1, 1) := by decide +kernel
theorem dL_act_164 : decode cL_act 164 = .ok (.if_icmp .ne 13, 3) := by decide +kernel
theorem dL_act_167 : decode cL_act 167 = .ok (.iload_n 2, 1) := by decide +kernel
theorem dL_act_168 : decode cL_act 168 = .ok (.bipush 8, 2) := by decide +kernel
theorem dL_act_170 : decode cL_act 170 = .ok (.idiv, 1) := by decide +kernel
theorem dL_act_171 : decode cL_act 171 = .ok (.bipush 21, 2) := by decide +kernel
theorem dL_act_173 : decode cL_act 173 = .ok (.irem, 1) := by decide +kernel
theorem dL_act_174 : decode cL_act 174 = .ok (.goto 29, 3) := by decide +kernel
theorem dL_act_177 : decode cL_act 177 = .ok (.iload_n 2, 1) := by decide +kernel
theorem dL_act_178 : decode cL_act 178 = .ok (.bipush 6, 2) := by decide +kernel
theorem dL_act_180 : decode cL_act 180 = .ok (.irem, 1) := by decide +kernel
theorem dL_act_181 : decode cL_act 181 = .ok (.iconst 2, 1) := by decide +kernel
theorem dL_act_182 : decode cL_act 182 = .ok (.if_icmp .ne 13, 3) := by decide +kernel
theorem dL_act_185 : decode cL_act 185 = .ok (.iload_n 2, 1) := by decide +kernel
theorem dL_act_186 : decode cL_act 186 = .ok (.bipush 8, 2) := by decide +kernel
theorem dL_act_188 : decode cL_act 188 = .ok (.idiv, 1) := by decide +kernel
theorem dL_act_189 : decode cL_act 189 = .ok (.bipush 100, 2) := by decide +kernel
theorem dL_act_191 : decode cL_act 191 = .ok (.irem, 1) := by decide +kernel
theorem dL_act_192 : decode cL_act 192 = .ok (.goto 11, 3) := by decide +kernel
theorem dL_act_195 : decode cL_act 195 = .ok (.iload_n 2, 1) := by decide +kernel
theorem dL_act_196 : decode cL_act 196 = .ok (.bipush 8, 2) := by decide +kernel
theorem dL_act_198 : decode cL_act 198 = .ok (.idiv, 1) := by decide +kernel
theorem dL_act_199 : decode cL_act 199 = .ok (.sipush 10000, 3) := by decide +kernel
theorem dL_act_202 : decode cL_act 202 = .ok (.irem, 1) := by decide +kernel
theorem dL_act_203 : decode cL_act 203 = .ok (.invokestatic 153, 3) := by decide +kernel
theorem dL_act_206 : decode cL_act 206 = .ok (.ireturn, 1) := by decide +kernel
theorem dL_act_207 : decode cL_act 207 = .ok (.aload_n 0, 1) := by decide +kernel
theorem dL_act_208 : decode cL_act 208 = .ok (.iload_n 2, 1) := by decide +kernel
theorem dL_act_209 : decode cL_act 209 = .ok (.sipush 161, 3) := by decide +kernel
theorem dL_act_212 : decode cL_act 212 = .ok (.irem, 1) := by decide +kernel
theorem dL_act_213 : decode cL_act 213 = .ok (.bipush 80, 2) := by decide +kernel
theorem dL_act_215 : decode cL_act 215 = .ok (.isub, 1) := by decide +kernel
theorem dL_act_216 : decode cL_act 216 = .ok (.invokestatic 156, 3) := by decide +kernel
theorem dL_act_219 : decode cL_act 219 = .ok (.ireturn, 1) := by decide +kernel
theorem dL_act_220 : decode cL_act 220 = .ok (.iload_n 3, 1) := by decide +kernel
theorem dL_act_221 : decode cL_act 221 = .ok (.iconst 3, 1) := by decide +kernel
theorem dL_act_222 : decode cL_act 222 = .ok (.if_icmp .le 13, 3) := by decide +kernel
theorem dL_act_225 : decode cL_act 225 = .ok (.aload_n 0, 1) := by decide +kernel
theorem dL_act_226 : decode cL_act 226 = .ok (.iload_n 2, 1) := by decide +kernel
theorem dL_act_227 : decode cL_act 227 = .ok (.iload_n 3, 1) := by decide +kernel
theorem dL_act_228 : decode cL_act 228 = .ok (.irem, 1) := by decide +kernel
theorem dL_act_229 : decode cL_act 229 = .ok (.invokestatic 159, 3) := by decide +kernel
theorem dL_act_232 : decode cL_act 232 = .ok (.goto 13, 3) := by decide +kernel
theorem dL_act_235 : decode cL_act 235 = .ok (.aload_n 0, 1) := by decide +kernel
theorem dL_act_236 : decode cL_act 236 = .ok (.iconst 1, 1) := by decide +kernel
theorem dL_act_237 : decode cL_act 237 = .ok (.iload_n 2, 1) := by decide +kernel
theorem dL_act_238 : decode cL_act 238 = .ok (.bipush 90, 2) := by decide +kernel
theorem dL_act_240 : decode cL_act 240 = .ok (.irem, 1) := by decide +kernel
theorem dL_act_241 : decode cL_act 241 = .ok (.iadd, 1) := by decide +kernel
theorem dL_act_242 : decode cL_act 242 = .ok (.invokestatic 150, 3) := by decide +kernel
theorem dL_act_245 : decode cL_act 245 = .ok (.ireturn, 1) := by decide +kernel
theorem dL_act_246 : decode cL_act 246 = .ok (.aload_n 0, 1) := by decide +kernel
theorem dL_act_247 : decode cL_act 247 = .ok (.iload_n 2, 1) := by decide +kernel
theorem dL_act_248 : decode cL_act 248 = .ok (.iconst 4, 1) := by decide +kernel
theorem dL_act_249 : decode cL_act 249 = .ok (.irem, 1) := by decide +kernel
theorem dL_act_250 : decode cL_act 250 = .ok (.invokestatic 162, 3) := by decide +kernel
theorem dL_act_253 : decode cL_act 253 = .ok (.ireturn, 1) := by decide +kernel
theorem dL_act_254 : decode cL_act 254 = .ok (.aload_n 0, 1) := by decide +kernel
theorem dL_act_255 : decode cL_act 255 = .ok (.invokestatic 164, 3) := by decide +kernel
theorem dL_act_258 : decode cL_act 258 = .ok (.ireturn, 1) := by decide +kernel
theorem dL_act_259 : decode cL_act 259 = .ok (.iload_n 2, 1) := by decide +kernel
theorem dL_act_260 : decode cL_act 260 = .ok (.iconst 3, 1) := by decide +kernel
theorem dL_act_261 : decode cL_act 261 = .ok (.irem, 1) := by decide +kernel
theorem dL_act_262 : decode cL_act 262 = .ok (.ifCond .ne 10, 3) := by decide +kernel
theorem dL_act_265 : decode cL_act 265 = .ok (.aload_n 0, 1) := by decide +kernel
theorem dL_act_266 : decode cL_act 266 = .ok (.invokevirtual 206, 3) := by decide +kernel
theorem dL_act_269 : decode cL_act 269 = .ok (.goto 13, 3) := by decide +kernel
theorem dL_act_272 : decode cL_act 272 = .ok (.aload_n 0, 1) := by decide +kernel
theorem dL_act_273 : decode cL_act 273 = .ok (.iconst 1, 1) := by decide +kernel
theorem dL_act_274 : decode cL_act 274 = .ok (.iload_n 2, 1) := by decide +kernel
theorem dL_act_275 : decode cL_act 275 = .ok (.bipush 50, 2) := by decide +kernel
theorem dL_act_277 : decode cL_act 277 = .ok (.irem, 1) := by decide +kernel
theorem dL_act_278 : decode cL_act 278 = .ok (.iadd, 1) := by decide +kernel
theorem dL_act_279 : decode cL_act 279 = .ok (.invokestatic 150, 3) := by decide +kernel
theorem dL_act_282 : decode cL_act 282 = .ok (.ireturn, 1) := by decide +kernel
theorem dL_act_283 : decode cL_act 283 = .ok (.aload_n 0, 1) := by decide +kernel
theorem dL_act_284 : decode cL_act 284 = .ok (.invokestatic 130, 3) := by decide +kernel
theorem dL_act_287 : decode cL_act 287 = .ok (.ireturn, 1) := by decide +kernel
theorem dL_act_288 : decode cL_act 288 = .ok (.iload_n 2, 1) := by decide +kernel
theorem dL_act_289 : decode cL_act 289 = .ok (.iconst 2, 1) := by decide +kernel
theorem dL_act_290 : decode cL_act 290 = .ok (.irem, 1) := by decide +kernel
theorem dL_act_291 : decode cL_act 291 = .ok (.ifCond .ne 11, 3) := by decide +kernel
theorem dL_act_294 : decode cL_act 294 = .ok (.aload_n 0, 1) := by decide +kernel
theorem dL_act_295 : decode cL_act 295 = .ok (.iconst 1, 1) := by decide +kernel
theorem dL_act_296 : decode cL_act 296 = .ok (.invokestatic 196, 3) := by decide +kernel
theorem dL_act_299 : decode cL_act 299 = .ok (.goto 8, 3) := by decide +kernel
theorem dL_act_302 : decode cL_act 302 = .ok (.aload_n 0, 1) := by decide +kernel
theorem dL_act_303 : decode cL_act 303 = .ok (.iconst 1, 1) := by decide +kernel
theorem dL_act_304 : decode cL_act 304 = .ok (.invokestatic 133, 3) := by decide +kernel
theorem dL_act_307 : decode cL_act 307 = .ok (.ireturn, 1) := by decide +kernel
theorem dL_law_0 : decode cL_law 0 = .ok (.new 8, 3) := by decide +kernel
theorem dL_law_3 : decode cL_law 3 = .ok (.dup, 1) := by decide +kernel
theorem dL_law_4 : decode cL_law 4 = .ok (.invokespecial 264, 3) := by decide +kernel
theorem dL_law_7 : decode cL_law 7 = .ok (.astore_n 1, 1) := by decide +kernel
theorem dL_law_8 : decode cL_law 8 = .ok (.new 8, 3) := by decide +kernel
theorem dL_law_11 : decode cL_law 11 = .ok (.dup, 1) := by decide +kernel
theorem dL_law_12 : decode cL_law 12 = .ok (.invokespecial 264, 3) := by decide +kernel
theorem dL_law_15 : decode cL_law 15 = .ok (.astore_n 2, 1) := by decide +kernel
theorem dL_law_16 : decode cL_law 16 = .ok (.aload_n 1, 1) := by decide +kernel
theorem dL_law_17 : decode cL_law 17 = .ok (.invokevirtual 112, 3) := by decide +kernel
theorem dL_law_20 : decode cL_law 20 = .ok (.ifCond .ne 59, 3) := by decide +kernel
theorem dL_law_23 : decode cL_law 23 = .ok (.aload_n 1, 1) := by decide +kernel
theorem dL_law_24 : decode cL_law 24 = .ok (.bipush 8, 2) := by decide +kernel
theorem dL_law_26 : decode cL_law 26 = .ok (.invokestatic 127, 3) := by decide +kernel
theorem dL_law_29 : decode cL_law 29 = .ok (.bipush 50, 2) := by decide +kernel
theorem dL_law_31 : decode cL_law 31 = .ok (.if_icmp .ne 48, 3) := by decide +kernel
theorem dL_law_34 : decode cL_law 34 = .ok (.aload_n 1, 1) := by decide +kernel
theorem dL_law_35 : decode cL_law 35 = .ok (.iconst 1, 1) := by decide +kernel
theorem dL_law_36 : decode cL_law 36 = .ok (.invokevirtual 146, 3) := by decide +kernel
theorem dL_law_39 : decode cL_law 39 = .ok (.ldc 119, 2) := by decide +kernel
theorem dL_law_41 : decode cL_law 41 = .ok (.if_icmp .ne 38, 3) := by decide +kernel
theorem dL_law_44 : decode cL_law 44 = .ok (.aload_n 1, 1) := by decide +kernel
theorem dL_law_45 : decode cL_law 45 = .ok (.invokestatic 130, 3) := by decide +kernel
theorem dL_law_48 : decode cL_law 48 = .ok (.ldc 18, 2) := by decide +kernel
theorem dL_law_50 : decode cL_law 50 = .ok (.if_icmp .ne 29, 3) := by decide +kernel
theorem dL_law_53 : decode cL_law 53 = .ok (.aload_n 2, 1) := by decide +kernel
theorem dL_law_54 : decode cL_law 54 = .ok (.invokestatic 265, 3) := by decide +kernel
theorem dL_law_57 : decode cL_law 57 = .ok (.ifCond .eq 22, 3) := by decide +kernel
theorem dL_law_60 : decode cL_law 60 = .ok (.aload_n 1, 1) := by decide +kernel
theorem dL_law_61 : decode cL_law 61 = .ok (.aload_n 2, 1) := by decide +kernel
theorem dL_law_62 : decode cL_law 62 = .ok (.invokestatic 268, 3) := by decide +kernel
theorem dL_law_65 : decode cL_law 65 = .ok (.ifCond .eq 14, 3) := by decide +kernel
theorem dL_law_68 : decode cL_law 68 = .ok (.aload_n 1, 1) := by decide +kernel
theorem dL_law_69 : decode cL_law 69 = .ok (.invokestatic 202, 3) := by decide +kernel
theorem dL_law_72 : decode cL_law 72 = .ok (.ifCond .eq 7, 3) := by decide +kernel
theorem dL_law_75 : decode cL_law 75 = .ok (.iconst 1, 1) := by decide +kernel
theorem dL_law_76 : decode cL_law 76 = .ok (.goto 4, 3) := by decide +kernel
theorem dL_law_79 : decode cL_law 79 = .ok (.iconst 0, 1) := by decide +kernel
theorem dL_law_80 : decode cL_law 80 = .ok (.istore_n 3, 1) := by decide +kernel
theorem dL_law_81 : decode cL_law 81 = .ok (.iconst 0, 1) := by decide +kernel
theorem dL_law_82 : decode cL_law 82 = .ok (.istore 4, 2) := by decide +kernel
theorem dL_law_84 : decode cL_law 84 = .ok (.iload 4, 2) := by decide +kernel
theorem dL_law_86 : decode cL_law 86 = .ok (.iconst 2, 1) := by decide +kernel
theorem dL_law_87 : decode cL_law 87 = .ok (.if_icmp .ge 280, 3) := by decide +kernel
theorem dL_law_90 : decode cL_law 90 = .ok (.iload_n 3, 1) := by decide +kernel
theorem dL_law_91 : decode cL_law 91 = .ok (.ifCond .eq 276, 3) := by decide +kernel
theorem dL_law_94 : decode cL_law 94 = .ok (.aload_n 1, 1) := by decide +kernel
theorem dL_law_95 : decode cL_law 95 = .ok (.aload_n 2, 1) := by decide +kernel
theorem dL_law_96 : decode cL_law 96 = .ok (.aload_n 0, 1) := by decide +kernel
theorem dL_law_97 : decode cL_law 97 = .ok (.bipush 40, 2) := by decide +kernel
theorem dL_law_99 : decode cL_law 99 = .ok (.iload 4, 2) := by decide +kernel
theorem dL_law_101 : decode cL_law 101 = .ok (.imul, 1) := by decide +kernel
theorem dL_law_102 : decode cL_law 102 = .ok (.invokestatic 272, 3) := by decide +kernel
theorem dL_law_105 : decode cL_law 105 = .ok (.ifCond .eq 29, 3) := by decide +kernel
theorem dL_law_108 : decode cL_law 108 = .ok (.aload_n 2, 1) := by decide +kernel
theorem dL_law_109 : decode cL_law 109 = .ok (.invokestatic 265, 3) := by decide +kernel
theorem dL_law_112 : decode cL_law 112 = .ok (.ifCond .eq 22, 3) := by decide +kernel
theorem dL_law_115 : decode cL_law 115 = .ok (.aload_n 1, 1) := by decide +kernel
theorem dL_law_116 : decode cL_law 116 = .ok (.aload_n 2, 1) := by decide +kernel
theorem dL_law_117 : decode cL_law 117 = .ok (.invokestatic 268, 3) := by decide +kernel
theorem dL_law_120 : decode cL_law 120 = .ok (.ifCond .eq 14, 3) := by decide +kernel
theorem dL_law_123 : decode cL_law 123 = .ok (.aload_n 1, 1) := by decide +kernel
theorem dL_law_124 : decode cL_law 124 = .ok (.invokestatic 202, 3) := by decide +kernel
theorem dL_law_127 : decode cL_law 127 = .ok (.ifCond .eq 7, 3) := by decide +kernel
theorem dL_law_130 : decode cL_law 130 = .ok (.iconst 1, 1) := by decide +kernel
theorem dL_law_131 : decode cL_law 131 = .ok (.goto 4, 3) := by decide +kernel
theorem dL_law_134 : decode cL_law 134 = .ok (.iconst 0, 1) := by decide +kernel
theorem dL_law_135 : decode cL_law 135 = .ok (.istore_n 3, 1) := by decide +kernel
theorem dL_law_136 : decode cL_law 136 = .ok (.iconst 0, 1) := by decide +kernel
theorem dL_law_137 : decode cL_law 137 = .ok (.istore 5, 2) := by decide +kernel
theorem dL_law_139 : decode cL_law 139 = .ok (.iload 5, 2) := by decide +kernel
theorem dL_law_141 : decode cL_law 141 = .ok (.bipush 12, 2) := by decide +kernel
theorem dL_law_143 : decode cL_law 143 = .ok (.if_icmp .ge 218, 3) := by decide +kernel
theorem dL_law_146 : decode cL_law 146 = .ok (.iload_n 3, 1) := by decide +kernel
theorem dL_law_147 : decode cL_law 147 = .ok (.ifCond .eq 214, 3) := by decide +kernel
theorem dL_law_150 : decode cL_law 150 = .ok (.aload_n 0, 1) := by decide +kernel
theorem dL_law_151 : decode cL_law 151 = .ok (.bipush 40, 2) := by decide +kernel
theorem dL_law_153 : decode cL_law 153 = .ok (.iload 4, 2) := by decide +kernel
theorem dL_law_155 : decode cL_law 155 = .ok (.imul, 1) := by decide +kernel
theorem dL_law_156 : decode cL_law 156 = .ok (.bipush 11, 2) := by decide +kernel
theorem dL_law_158 : decode cL_law 158 = .ok (.iadd, 1) := by decide +kernel
theorem dL_law_159 : decode cL_law 159 = .ok (.iconst 2, 1) := by decide +kernel
theorem dL_law_160 : decode cL_law 160 = .ok (.iload 5, 2) := by decide +kernel
theorem dL_law_162 : decode cL_law 162 = .ok (.imul, 1) := by decide +kernel
theorem dL_law_163 : decode cL_law 163 = .ok (.iadd, 1) := by decide +kernel
theorem dL_law_164 : decode cL_law 164 = .ok (.invokestatic 105, 3) := by decide +kernel
theorem dL_law_167 : decode cL_law 167 = .ok (.istore 6, 2) := by decide +kernel
theorem dL_law_169 : decode cL_law 169 = .ok (.aload_n 0, 1) := by decide +kernel
theorem dL_law_170 : decode cL_law 170 = .ok (.bipush 40, 2) := by decide +kernel
theorem dL_law_172 : decode cL_law 172 = .ok (.iload 4, 2) := by decide +kernel
theorem dL_law_174 : decode cL_law 174 = .ok (.imul, 1) := by decide +kernel
theorem dL_law_175 : decode cL_law 175 = .ok (.bipush 12, 2) := by decide +kernel
theorem dL_law_177 : decode cL_law 177 = .ok (.iadd, 1) := by decide +kernel
theorem dL_law_178 : decode cL_law 178 = .ok (.iconst 2, 1) := by decide +kernel
theorem dL_law_179 : decode cL_law 179 = .ok (.iload 5, 2) := by decide +kernel
theorem dL_law_181 : decode cL_law 181 = .ok (.imul, 1) := by decide +kernel
theorem dL_law_182 : decode cL_law 182 = .ok (.iadd, 1) := by decide +kernel
theorem dL_law_183 : decode cL_law 183 = .ok (.invokestatic 105, 3) := by decide +kernel
theorem dL_law_186 : decode cL_law 186 = .ok (.istore 7, 2) := by decide +kernel
theorem dL_law_188 : decode cL_law 188 = .ok (.aload_n 1, 1) := by decide +kernel
theorem dL_law_189 : decode cL_law 189 = .ok (.iload 6, 2) := by decide +kernel
theorem dL_law_191 : decode cL_law 191 = .ok (.iload 7, 2) := by decide +kernel
theorem dL_law_193 : decode cL_law 193 = .ok (.invokestatic 276, 3) := by decide +kernel
theorem dL_law_196 : decode cL_law 196 = .ok (.aload_n 2, 1) := by decide +kernel
theorem dL_law_197 : decode cL_law 197 = .ok (.iload 6, 2) := by decide +kernel
theorem dL_law_199 : decode cL_law 199 = .ok (.iload 7, 2) := by decide +kernel
theorem dL_law_201 : decode cL_law 201 = .ok (.invokestatic 276, 3) := by decide +kernel
theorem dL_law_204 : decode cL_law 204 = .ok (.if_icmp .ne 29, 3) := by decide +kernel
theorem dL_law_207 : decode cL_law 207 = .ok (.aload_n 2, 1) := by decide +kernel
theorem dL_law_208 : decode cL_law 208 = .ok (.invokestatic 265, 3) := by decide +kernel
theorem dL_law_211 : decode cL_law 211 = .ok (.ifCond .eq 22, 3) := by decide +kernel
theorem dL_law_214 : decode cL_law 214 = .ok (.aload_n 1, 1) := by decide +kernel
theorem dL_law_215 : decode cL_law 215 = .ok (.aload_n 2, 1) := by decide +kernel
theorem dL_law_216 : decode cL_law 216 = .ok (.invokestatic 268, 3) := by decide +kernel
theorem dL_law_219 : decode cL_law 219 = .ok (.ifCond .eq 14, 3) := by decide +kernel
theorem dL_law_222 : decode cL_law 222 = .ok (.aload_n 1, 1) := by decide +kernel
theorem dL_law_223 : decode cL_law 223 = .ok (.invokestatic 202, 3) := by decide +kernel
theorem dL_law_226 : decode cL_law 226 = .ok (.ifCond .eq 7, 3) := by decide +kernel
theorem dL_law_229 : decode cL_law 229 = .ok (.iconst 1, 1) := by decide +kernel
theorem dL_law_230 : decode cL_law 230 = .ok (.goto 4, 3) := by decide +kernel
theorem dL_law_233 : decode cL_law 233 = .ok (.iconst 0, 1) := by decide +kernel
theorem dL_law_234 : decode cL_law 234 = .ok (.istore_n 3, 1) := by decide +kernel
theorem dL_law_235 : decode cL_law 235 = .ok (.iload 5, 2) := by decide +kernel
theorem dL_law_237 : decode cL_law 237 = .ok (.iconst 4, 1) := by decide +kernel
theorem dL_law_238 : decode cL_law 238 = .ok (.irem, 1) := by decide +kernel
theorem dL_law_239 : decode cL_law 239 = .ok (.iconst 3, 1) := by decide +kernel
theorem dL_law_240 : decode cL_law 240 = .ok (.if_icmp .ne 115, 3) := by decide +kernel
theorem dL_law_243 : decode cL_law 243 = .ok (.iload_n 3, 1) := by decide +kernel
theorem dL_law_244 : decode cL_law 244 = .ok (.ifCond .eq 111, 3) := by decide +kernel
theorem dL_law_247 : decode cL_law 247 = .ok (.aload_n 1, 1) := by decide +kernel
theorem dL_law_248 : decode cL_law 248 = .ok (.bipush 13, 2) := by decide +kernel
theorem dL_law_250 : decode cL_law 250 = .ok (.invokestatic 127, 3) := by decide +kernel
theorem dL_law_253 : decode cL_law 253 = .ok (.istore 8, 2) := by decide +kernel
theorem dL_law_255 : decode cL_law 255 = .ok (.aload_n 1, 1) := by decide +kernel
theorem dL_law_256 : decode cL_law 256 = .ok (.iload 6, 2) := by decide +kernel
theorem dL_law_258 : decode cL_law 258 = .ok (.invokestatic 279, 3) := by decide +kernel
theorem dL_law_261 : decode cL_law 261 = .ok (.ifCond .eq 92, 3) := by decide +kernel
theorem dL_law_264 : decode cL_law 264 = .ok (.aload_n 2, 1) := by decide +kernel
theorem dL_law_265 : decode cL_law 265 = .ok (.iconst 0, 1) := by decide +kernel
theorem dL_law_266 : decode cL_law 266 = .ok (.invokestatic 196, 3) := by decide +kernel
theorem dL_law_269 : decode cL_law 269 = .ok (.iload 8, 2) := by decide +kernel
theorem dL_law_271 : decode cL_law 271 = .ok (.if_icmp .ne 82, 3) := by decide +kernel
theorem dL_law_274 : decode cL_law 274 = .ok (.aload_n 1, 1) := by decide +kernel
theorem dL_law_275 : decode cL_law 275 = .ok (.iconst 0, 1) := by decide +kernel
theorem dL_law_276 : decode cL_law 276 = .ok (.invokestatic 196, 3) := by decide +kernel
theorem dL_law_279 : decode cL_law 279 = .ok (.iload 8, 2) := by decide +kernel
theorem dL_law_281 : decode cL_law 281 = .ok (.if_icmp .ne 72, 3) := by decide +kernel
theorem dL_law_284 : decode cL_law 284 = .ok (.aload_n 1, 1) := by decide +kernel
theorem dL_law_285 : decode cL_law 285 = .ok (.iconst 0, 1) := by decide +kernel
theorem dL_law_286 : decode cL_law 286 = .ok (.invokestatic 133, 3) := by decide +kernel
theorem dL_law_289 : decode cL_law 289 = .ok (.iload 8, 2) := by decide +kernel
theorem dL_law_291 : decode cL_law 291 = .ok (.if_icmp .ne 62, 3) := by decide +kernel
theorem dL_law_294 : decode cL_law 294 = .ok (.aload_n 1, 1) := by decide +kernel
theorem dL_law_295 : decode cL_law 295 = .ok (.iload 7, 2) := by decide +kernel
theorem dL_law_297 : decode cL_law 297 = .ok (.invokestatic 283, 3) := by decide +kernel
theorem dL_law_300 : decode cL_law 300 = .ok (.ifCond .eq 53, 3) := by decide +kernel
theorem dL_law_303 : decode cL_law 303 = .ok (.aload_n 1, 1) := by decide +kernel
theorem dL_law_304 : decode cL_law 304 = .ok (.iload 7, 2) := by decide +kernel
theorem dL_law_306 : decode cL_law 306 = .ok (.invokestatic 286, 3) := by decide +kernel
theorem dL_law_309 : decode cL_law 309 = .ok (.ifCond .eq 44, 3) := by decide +kernel
theorem dL_law_312 : decode cL_law 312 = .ok (.aload_n 1, 1) := by decide +kernel
theorem dL_law_313 : decode cL_law 313 = .ok (.iconst 0, 1) := by decide +kernel
theorem dL_law_314 : decode cL_law 314 = .ok (.invokestatic 133, 3) := by decide +kernel
theorem dL_law_317 : decode cL_law 317 = .ok (.iload 8, 2) := by decide +kernel
theorem dL_law_319 : decode cL_law 319 = .ok (.if_icmp .ne 34, 3) := by decide +kernel
theorem dL_law_322 : decode cL_law 322 = .ok (.aload_n 2, 1) := by decide +kernel
theorem dL_law_323 : decode cL_law 323 = .ok (.iconst 0, 1) := by decide +kernel
theorem dL_law_324 : decode cL_law 324 = .ok (.invokestatic 133, 3) := by decide +kernel
theorem dL_law_327 : decode cL_law 327 = .ok (.iload 8, 2) := by decide +kernel
theorem dL_law_329 : decode cL_law 329 = .ok (.if_icmp .ne 24, 3) := by decide +kernel
theorem dL_law_332 : decode cL_law 332 = .ok (.aload_n 1, 1) := by decide +kernel
theorem dL_law_333 : decode cL_law 333 = .ok (.invokestatic 130, 3) := by decide +kernel
theorem dL_law_336 : decode cL_law 336 = .ok (.ldc 18, 2) := by decide +kernel
theorem dL_law_338 : decode cL_law 338 = .ok (.if_icmp .ne 15, 3) := by decide +kernel
theorem dL_law_341 : decode cL_law 341 = .ok (.aload_n 1, 1) := by decide +kernel
theorem dL_law_342 : decode cL_law 342 = .ok (.aload_n 2, 1) := by decide +kernel
theorem dL_law_343 : decode cL_law 343 = .ok (.invokestatic 268, 3) := by decide +kernel
theorem dL_law_346 : decode cL_law 346 = .ok (.ifCond .eq 7, 3) := by decide +kernel
theorem dL_law_349 : decode cL_law 349 = .ok (.iconst 1, 1) := by decide +kernel
theorem dL_law_350 : decode cL_law 350 = .ok (.goto 4, 3) := by decide +kernel
theorem dL_law_353 : decode cL_law 353 = .ok (.iconst 0, 1) := by decide +kernel
theorem dL_law_354 : decode cL_law 354 = .ok (.istore_n 3, 1) := by decide +kernel
theorem dL_law_355 : decode cL_law 355 = .ok (.iinc 5 1, 3) := by decide +kernel
theorem dL_law_358 : decode cL_law 358 = .ok (.goto (-219), 3) := by decide +kernel
theorem dL_law_361 : decode cL_law 361 = .ok (.iinc 4 1, 3) := by decide +kernel
theorem dL_law_364 : decode cL_law 364 = .ok (.goto (-280), 3) := by decide +kernel
theorem dL_law_367 : decode cL_law 367 = .ok (.iload_n 3, 1) := by decide +kernel
theorem dL_law_368 : decode cL_law 368 = .ok (.ireturn, 1) := by decide +kernel
