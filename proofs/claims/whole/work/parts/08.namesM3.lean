abbrev b_M_step : ByteArray := prog_9_method_31_code
def y_M_step : MethodName := ⟨"RangeExchangeModel", "step", "(IZZJJ)J"⟩
theorem d_M_step_0 : decode b_M_step 0 = .ok (.aload_n 0, 1) := by decide +kernel
theorem d_M_step_1 : decode b_M_step 1 = .ok (.iload_n 1, 1) := by decide +kernel
theorem d_M_step_2 : decode b_M_step 2 = .ok (.iload_n 2, 1) := by decide +kernel
theorem d_M_step_3 : decode b_M_step 3 = .ok (.invokevirtual 171, 3) := by decide +kernel
theorem d_M_step_6 : decode b_M_step 6 = .ok (.istore 8, 2) := by decide +kernel
theorem d_M_step_8 : decode b_M_step 8 = .ok (.aload_n 0, 1) := by decide +kernel
theorem d_M_step_9 : decode b_M_step 9 = .ok (.getfield 60, 3) := by decide +kernel
theorem d_M_step_12 : decode b_M_step 12 = .ok (.iload_n 1, 1) := by decide +kernel
theorem d_M_step_13 : decode b_M_step 13 = .ok (.laload, 1) := by decide +kernel
theorem d_M_step_14 : decode b_M_step 14 = .ok (.lstore 9, 2) := by decide +kernel
theorem d_M_step_16 : decode b_M_step 16 = .ok (.aload_n 0, 1) := by decide +kernel
theorem d_M_step_17 : decode b_M_step 17 = .ok (.iload 8, 2) := by decide +kernel
theorem d_M_step_19 : decode b_M_step 19 = .ok (.invokevirtual 100, 3) := by decide +kernel
theorem d_M_step_22 : decode b_M_step 22 = .ok (.lstore 11, 2) := by decide +kernel
theorem d_M_step_24 : decode b_M_step 24 = .ok (.iload_n 2, 1) := by decide +kernel
theorem d_M_step_25 : decode b_M_step 25 = .ok (.ifCond .eq 21, 3) := by decide +kernel
theorem d_M_step_28 : decode b_M_step 28 = .ok (.lload 11, 2) := by decide +kernel
theorem d_M_step_30 : decode b_M_step 30 = .ok (.lload 6, 2) := by decide +kernel
theorem d_M_step_32 : decode b_M_step 32 = .ok (.lcmp, 1) := by decide +kernel
theorem d_M_step_33 : decode b_M_step 33 = .ok (.ifCond .le 8, 3) := by decide +kernel
theorem d_M_step_36 : decode b_M_step 36 = .ok (.lload 11, 2) := by decide +kernel
theorem d_M_step_38 : decode b_M_step 38 = .ok (.goto 23, 3) := by decide +kernel
theorem d_M_step_41 : decode b_M_step 41 = .ok (.lload 6, 2) := by decide +kernel
theorem d_M_step_43 : decode b_M_step 43 = .ok (.goto 18, 3) := by decide +kernel
theorem d_M_step_46 : decode b_M_step 46 = .ok (.lload 11, 2) := by decide +kernel
theorem d_M_step_48 : decode b_M_step 48 = .ok (.lload 6, 2) := by decide +kernel
theorem d_M_step_50 : decode b_M_step 50 = .ok (.lcmp, 1) := by decide +kernel
theorem d_M_step_51 : decode b_M_step 51 = .ok (.ifCond .ge 8, 3) := by decide +kernel
theorem d_M_step_54 : decode b_M_step 54 = .ok (.lload 11, 2) := by decide +kernel
theorem d_M_step_56 : decode b_M_step 56 = .ok (.goto 5, 3) := by decide +kernel
theorem d_M_step_59 : decode b_M_step 59 = .ok (.lload 6, 2) := by decide +kernel
theorem d_M_step_61 : decode b_M_step 61 = .ok (.lstore 13, 2) := by decide +kernel
theorem d_M_step_63 : decode b_M_step 63 = .ok (.aload_n 0, 1) := by decide +kernel
theorem d_M_step_64 : decode b_M_step 64 = .ok (.iload_n 1, 1) := by decide +kernel
theorem d_M_step_65 : decode b_M_step 65 = .ok (.aload_n 0, 1) := by decide +kernel
theorem d_M_step_66 : decode b_M_step 66 = .ok (.getfield 63, 3) := by decide +kernel
theorem d_M_step_69 : decode b_M_step 69 = .ok (.iload_n 1, 1) := by decide +kernel
theorem d_M_step_70 : decode b_M_step 70 = .ok (.iaload, 1) := by decide +kernel
theorem d_M_step_71 : decode b_M_step 71 = .ok (.invokevirtual 175, 3) := by decide +kernel
theorem d_M_step_74 : decode b_M_step 74 = .ok (.lstore 15, 2) := by decide +kernel
theorem d_M_step_76 : decode b_M_step 76 = .ok (.iload_n 3, 1) := by decide +kernel
theorem d_M_step_77 : decode b_M_step 77 = .ok (.ifCond .eq 24, 3) := by decide +kernel
theorem d_M_step_80 : decode b_M_step 80 = .ok (.lload 4, 2) := by decide +kernel
theorem d_M_step_82 : decode b_M_step 82 = .ok (.ldc2_w 179, 3) := by decide +kernel
theorem d_M_step_85 : decode b_M_step 85 = .ok (.aload_n 0, 1) := by decide +kernel
theorem d_M_step_86 : decode b_M_step 86 = .ok (.getfield 22, 3) := by decide +kernel
theorem d_M_step_89 : decode b_M_step 89 = .ok (.iload_n 1, 1) := by decide +kernel
theorem d_M_step_90 : decode b_M_step 90 = .ok (.iaload, 1) := by decide +kernel
theorem d_M_step_91 : decode b_M_step 91 = .ok (.i2l, 1) := by decide +kernel
theorem d_M_step_92 : decode b_M_step 92 = .ok (.lsub, 1) := by decide +kernel
theorem d_M_step_93 : decode b_M_step 93 = .ok (.lmul, 1) := by decide +kernel
theorem d_M_step_94 : decode b_M_step 94 = .ok (.ldc2_w 179, 3) := by decide +kernel
theorem d_M_step_97 : decode b_M_step 97 = .ok (.ldiv, 1) := by decide +kernel
theorem d_M_step_98 : decode b_M_step 98 = .ok (.goto 5, 3) := by decide +kernel
theorem d_M_step_101 : decode b_M_step 101 = .ok (.lload 4, 2) := by decide +kernel
theorem d_M_step_103 : decode b_M_step 103 = .ok (.lstore 17, 2) := by decide +kernel
theorem d_M_step_105 : decode b_M_step 105 = .ok (.iload_n 3, 1) := by decide +kernel
theorem d_M_step_106 : decode b_M_step 106 = .ok (.iload_n 2, 1) := by decide +kernel
theorem d_M_step_107 : decode b_M_step 107 = .ok (.if_icmp .ne 34, 3) := by decide +kernel
theorem d_M_step_110 : decode b_M_step 110 = .ok (.iload_n 2, 1) := by decide +kernel
theorem d_M_step_111 : decode b_M_step 111 = .ok (.ifCond .eq 8, 3) := by decide +kernel
theorem d_M_step_114 : decode b_M_step 114 = .ok (.lload 13, 2) := by decide +kernel
theorem d_M_step_116 : decode b_M_step 116 = .ok (.goto 5, 3) := by decide +kernel
theorem d_M_step_119 : decode b_M_step 119 = .ok (.lload 9, 2) := by decide +kernel
theorem d_M_step_121 : decode b_M_step 121 = .ok (.iload_n 2, 1) := by decide +kernel
theorem d_M_step_122 : decode b_M_step 122 = .ok (.ifCond .eq 8, 3) := by decide +kernel
theorem d_M_step_125 : decode b_M_step 125 = .ok (.lload 9, 2) := by decide +kernel
theorem d_M_step_127 : decode b_M_step 127 = .ok (.goto 5, 3) := by decide +kernel
theorem d_M_step_130 : decode b_M_step 130 = .ok (.lload 13, 2) := by decide +kernel
theorem d_M_step_132 : decode b_M_step 132 = .ok (.lload 15, 2) := by decide +kernel
theorem d_M_step_134 : decode b_M_step 134 = .ok (.iload_n 3, 1) := by decide +kernel
theorem d_M_step_135 : decode b_M_step 135 = .ok (.invokestatic 104, 3) := by decide +kernel
theorem d_M_step_138 : decode b_M_step 138 = .ok (.goto 31, 3) := by decide +kernel
theorem d_M_step_141 : decode b_M_step 141 = .ok (.iload_n 2, 1) := by decide +kernel
theorem d_M_step_142 : decode b_M_step 142 = .ok (.ifCond .eq 8, 3) := by decide +kernel
theorem d_M_step_145 : decode b_M_step 145 = .ok (.lload 13, 2) := by decide +kernel
theorem d_M_step_147 : decode b_M_step 147 = .ok (.goto 5, 3) := by decide +kernel
theorem d_M_step_150 : decode b_M_step 150 = .ok (.lload 9, 2) := by decide +kernel
theorem d_M_step_152 : decode b_M_step 152 = .ok (.iload_n 2, 1) := by decide +kernel
theorem d_M_step_153 : decode b_M_step 153 = .ok (.ifCond .eq 8, 3) := by decide +kernel
theorem d_M_step_156 : decode b_M_step 156 = .ok (.lload 9, 2) := by decide +kernel
theorem d_M_step_158 : decode b_M_step 158 = .ok (.goto 5, 3) := by decide +kernel
theorem d_M_step_161 : decode b_M_step 161 = .ok (.lload 13, 2) := by decide +kernel
theorem d_M_step_163 : decode b_M_step 163 = .ok (.lload 15, 2) := by decide +kernel
theorem d_M_step_165 : decode b_M_step 165 = .ok (.iload_n 3, 1) := by decide +kernel
theorem d_M_step_166 : decode b_M_step 166 = .ok (.invokestatic 107, 3) := by decide +kernel
theorem d_M_step_169 : decode b_M_step 169 = .ok (.lstore 19, 2) := by decide +kernel
theorem d_M_step_171 : decode b_M_step 171 = .ok (.lload 17, 2) := by decide +kernel
theorem d_M_step_173 : decode b_M_step 173 = .ok (.lload 19, 2) := by decide +kernel
theorem d_M_step_175 : decode b_M_step 175 = .ok (.lcmp, 1) := by decide +kernel
theorem d_M_step_176 : decode b_M_step 176 = .ok (.ifCond .lt 8, 3) := by decide +kernel
theorem d_M_step_179 : decode b_M_step 179 = .ok (.lload 13, 2) := by decide +kernel
theorem d_M_step_181 : decode b_M_step 181 = .ok (.goto 14, 3) := by decide +kernel
theorem d_M_step_184 : decode b_M_step 184 = .ok (.iload_n 2, 1) := by decide +kernel
theorem d_M_step_185 : decode b_M_step 185 = .ok (.iload_n 3, 1) := by decide +kernel
theorem d_M_step_186 : decode b_M_step 186 = .ok (.lload 9, 2) := by decide +kernel
theorem d_M_step_188 : decode b_M_step 188 = .ok (.lload 15, 2) := by decide +kernel
theorem d_M_step_190 : decode b_M_step 190 = .ok (.lload 17, 2) := by decide +kernel
theorem d_M_step_192 : decode b_M_step 192 = .ok (.invokestatic 181, 3) := by decide +kernel
theorem d_M_step_195 : decode b_M_step 195 = .ok (.lstore 21, 2) := by decide +kernel
theorem d_M_step_197 : decode b_M_step 197 = .ok (.iload_n 2, 1) := by decide +kernel
theorem d_M_step_198 : decode b_M_step 198 = .ok (.ifCond .eq 8, 3) := by decide +kernel
theorem d_M_step_201 : decode b_M_step 201 = .ok (.lload 21, 2) := by decide +kernel
theorem d_M_step_203 : decode b_M_step 203 = .ok (.goto 5, 3) := by decide +kernel
theorem d_M_step_206 : decode b_M_step 206 = .ok (.lload 9, 2) := by decide +kernel
theorem d_M_step_208 : decode b_M_step 208 = .ok (.lstore 23, 2) := by decide +kernel
theorem d_M_step_210 : decode b_M_step 210 = .ok (.iload_n 2, 1) := by decide +kernel
theorem d_M_step_211 : decode b_M_step 211 = .ok (.ifCond .eq 8, 3) := by decide +kernel
theorem d_M_step_214 : decode b_M_step 214 = .ok (.lload 9, 2) := by decide +kernel
theorem d_M_step_216 : decode b_M_step 216 = .ok (.goto 5, 3) := by decide +kernel
theorem d_M_step_219 : decode b_M_step 219 = .ok (.lload 21, 2) := by decide +kernel
theorem d_M_step_221 : decode b_M_step 221 = .ok (.lstore 25, 2) := by decide +kernel
theorem d_M_step_223 : decode b_M_step 223 = .ok (.iload_n 2, 1) := by decide +kernel
theorem d_M_step_224 : decode b_M_step 224 = .ok (.ifCond .eq 16, 3) := by decide +kernel
theorem d_M_step_227 : decode b_M_step 227 = .ok (.lload 23, 2) := by decide +kernel
theorem d_M_step_229 : decode b_M_step 229 = .ok (.lload 25, 2) := by decide +kernel
theorem d_M_step_231 : decode b_M_step 231 = .ok (.lload 15, 2) := by decide +kernel
theorem d_M_step_233 : decode b_M_step 233 = .ok (.iconst 1, 1) := by decide +kernel
theorem d_M_step_234 : decode b_M_step 234 = .ok (.invokestatic 104, 3) := by decide +kernel
theorem d_M_step_237 : decode b_M_step 237 = .ok (.goto 13, 3) := by decide +kernel
theorem d_M_step_240 : decode b_M_step 240 = .ok (.lload 23, 2) := by decide +kernel
theorem d_M_step_242 : decode b_M_step 242 = .ok (.lload 25, 2) := by decide +kernel
theorem d_M_step_244 : decode b_M_step 244 = .ok (.lload 15, 2) := by decide +kernel
theorem d_M_step_246 : decode b_M_step 246 = .ok (.iconst 1, 1) := by decide +kernel
theorem d_M_step_247 : decode b_M_step 247 = .ok (.invokestatic 107, 3) := by decide +kernel
theorem d_M_step_250 : decode b_M_step 250 = .ok (.lstore 27, 2) := by decide +kernel
theorem d_M_step_252 : decode b_M_step 252 = .ok (.iload_n 2, 1) := by decide +kernel
theorem d_M_step_253 : decode b_M_step 253 = .ok (.ifCond .eq 16, 3) := by decide +kernel
theorem d_M_step_256 : decode b_M_step 256 = .ok (.lload 23, 2) := by decide +kernel
theorem d_M_step_258 : decode b_M_step 258 = .ok (.lload 25, 2) := by decide +kernel
theorem d_M_step_260 : decode b_M_step 260 = .ok (.lload 15, 2) := by decide +kernel
theorem d_M_step_262 : decode b_M_step 262 = .ok (.iconst 0, 1) := by decide +kernel
theorem d_M_step_263 : decode b_M_step 263 = .ok (.invokestatic 107, 3) := by decide +kernel
theorem d_M_step_266 : decode b_M_step 266 = .ok (.goto 13, 3) := by decide +kernel
theorem d_M_step_269 : decode b_M_step 269 = .ok (.lload 23, 2) := by decide +kernel
theorem d_M_step_271 : decode b_M_step 271 = .ok (.lload 25, 2) := by decide +kernel
theorem d_M_step_273 : decode b_M_step 273 = .ok (.lload 15, 2) := by decide +kernel
theorem d_M_step_275 : decode b_M_step 275 = .ok (.iconst 0, 1) := by decide +kernel
theorem d_M_step_276 : decode b_M_step 276 = .ok (.invokestatic 104, 3) := by decide +kernel
theorem d_M_step_279 : decode b_M_step 279 = .ok (.lstore 29, 2) := by decide +kernel
theorem d_M_step_281 : decode b_M_step 281 = .ok (.iload_n 3, 1) := by decide +kernel
theorem d_M_step_282 : decode b_M_step 282 = .ok (.ifCond .ne 16, 3) := by decide +kernel
theorem d_M_step_285 : decode b_M_step 285 = .ok (.lload 29, 2) := by decide +kernel
theorem d_M_step_287 : decode b_M_step 287 = .ok (.lload 4, 2) := by decide +kernel
theorem d_M_step_289 : decode b_M_step 289 = .ok (.lcmp, 1) := by decide +kernel
theorem d_M_step_290 : decode b_M_step 290 = .ok (.ifCond .le 8, 3) := by decide +kernel
theorem d_M_step_293 : decode b_M_step 293 = .ok (.lload 4, 2) := by decide +kernel
theorem d_M_step_295 : decode b_M_step 295 = .ok (.goto 5, 3) := by decide +kernel
theorem d_M_step_298 : decode b_M_step 298 = .ok (.lload 29, 2) := by decide +kernel
theorem d_M_step_300 : decode b_M_step 300 = .ok (.lstore 29, 2) := by decide +kernel
theorem d_M_step_302 : decode b_M_step 302 = .ok (.iload_n 3, 1) := by decide +kernel
theorem d_M_step_303 : decode b_M_step 303 = .ok (.ifCond .eq 19, 3) := by decide +kernel
theorem d_M_step_306 : decode b_M_step 306 = .ok (.lload 21, 2) := by decide +kernel
theorem d_M_step_308 : decode b_M_step 308 = .ok (.lload 13, 2) := by decide +kernel
theorem d_M_step_310 : decode b_M_step 310 = .ok (.lcmp, 1) := by decide +kernel
theorem d_M_step_311 : decode b_M_step 311 = .ok (.ifCond .eq 11, 3) := by decide +kernel
theorem d_M_step_314 : decode b_M_step 314 = .ok (.lload 4, 2) := by decide +kernel
theorem d_M_step_316 : decode b_M_step 316 = .ok (.lload 27, 2) := by decide +kernel
theorem d_M_step_318 : decode b_M_step 318 = .ok (.lsub, 1) := by decide +kernel
theorem d_M_step_319 : decode b_M_step 319 = .ok (.goto 28, 3) := by decide +kernel
theorem d_M_step_322 : decode b_M_step 322 = .ok (.lload 27, 2) := by decide +kernel
theorem d_M_step_324 : decode b_M_step 324 = .ok (.aload_n 0, 1) := by decide +kernel
theorem d_M_step_325 : decode b_M_step 325 = .ok (.getfield 22, 3) := by decide +kernel
theorem d_M_step_328 : decode b_M_step 328 = .ok (.iload_n 1, 1) := by decide +kernel
theorem d_M_step_329 : decode b_M_step 329 = .ok (.iaload, 1) := by decide +kernel
theorem d_M_step_330 : decode b_M_step 330 = .ok (.i2l, 1) := by decide +kernel
theorem d_M_step_331 : decode b_M_step 331 = .ok (.lmul, 1) := by decide +kernel
theorem d_M_step_332 : decode b_M_step 332 = .ok (.ldc2_w 179, 3) := by decide +kernel
theorem d_M_step_335 : decode b_M_step 335 = .ok (.aload_n 0, 1) := by decide +kernel
theorem d_M_step_336 : decode b_M_step 336 = .ok (.getfield 22, 3) := by decide +kernel
theorem d_M_step_339 : decode b_M_step 339 = .ok (.iload_n 1, 1) := by decide +kernel
theorem d_M_step_340 : decode b_M_step 340 = .ok (.iaload, 1) := by decide +kernel
theorem d_M_step_341 : decode b_M_step 341 = .ok (.i2l, 1) := by decide +kernel
theorem d_M_step_342 : decode b_M_step 342 = .ok (.lsub, 1) := by decide +kernel
theorem d_M_step_343 : decode b_M_step 343 = .ok (.iconst 1, 1) := by decide +kernel
theorem d_M_step_344 : decode b_M_step 344 = .ok (.invokestatic 90, 3) := by decide +kernel
theorem d_M_step_347 : decode b_M_step 347 = .ok (.lstore 31, 2) := by decide +kernel
theorem d_M_step_349 : decode b_M_step 349 = .ok (.aload_n 0, 1) := by decide +kernel
theorem d_M_step_350 : decode b_M_step 350 = .ok (.getfield 69, 3) := by decide +kernel
theorem d_M_step_353 : decode b_M_step 353 = .ok (.iload_n 1, 1) := by decide +kernel
theorem d_M_step_354 : decode b_M_step 354 = .ok (.dup2, 1) := by decide +kernel
theorem d_M_step_355 : decode b_M_step 355 = .ok (.laload, 1) := by decide +kernel
theorem d_M_step_356 : decode b_M_step 356 = .ok (.lload 27, 2) := by decide +kernel
theorem d_M_step_358 : decode b_M_step 358 = .ok (.lload 31, 2) := by decide +kernel
theorem d_M_step_360 : decode b_M_step 360 = .ok (.ladd, 1) := by decide +kernel
theorem d_M_step_361 : decode b_M_step 361 = .ok (.ladd, 1) := by decide +kernel
theorem d_M_step_362 : decode b_M_step 362 = .ok (.lastore, 1) := by decide +kernel
theorem d_M_step_363 : decode b_M_step 363 = .ok (.aload_n 0, 1) := by decide +kernel
theorem d_M_step_364 : decode b_M_step 364 = .ok (.getfield 72, 3) := by decide +kernel
theorem d_M_step_367 : decode b_M_step 367 = .ok (.iload_n 1, 1) := by decide +kernel
theorem d_M_step_368 : decode b_M_step 368 = .ok (.dup2, 1) := by decide +kernel
theorem d_M_step_369 : decode b_M_step 369 = .ok (.laload, 1) := by decide +kernel
theorem d_M_step_370 : decode b_M_step 370 = .ok (.lload 29, 2) := by decide +kernel
theorem d_M_step_372 : decode b_M_step 372 = .ok (.ladd, 1) := by decide +kernel
theorem d_M_step_373 : decode b_M_step 373 = .ok (.lastore, 1) := by decide +kernel
theorem d_M_step_374 : decode b_M_step 374 = .ok (.lload 15, 2) := by decide +kernel
theorem d_M_step_376 : decode b_M_step 376 = .ok (.lconst 0, 1) := by decide +kernel
theorem d_M_step_377 : decode b_M_step 377 = .ok (.lcmp, 1) := by decide +kernel
theorem d_M_step_378 : decode b_M_step 378 = .ok (.ifCond .eq 84, 3) := by decide +kernel
theorem d_M_step_381 : decode b_M_step 381 = .ok (.lload 31, 2) := by decide +kernel
theorem d_M_step_383 : decode b_M_step 383 = .ok (.ldc2_w 78, 3) := by decide +kernel
theorem d_M_step_386 : decode b_M_step 386 = .ok (.lmul, 1) := by decide +kernel
theorem d_M_step_387 : decode b_M_step 387 = .ok (.lload 15, 2) := by decide +kernel
theorem d_M_step_389 : decode b_M_step 389 = .ok (.ldiv, 1) := by decide +kernel
theorem d_M_step_390 : decode b_M_step 390 = .ok (.lstore 33, 2) := by decide +kernel
theorem d_M_step_392 : decode b_M_step 392 = .ok (.aload_n 0, 1) := by decide +kernel
theorem d_M_step_393 : decode b_M_step 393 = .ok (.getfield 66, 3) := by decide +kernel
theorem d_M_step_396 : decode b_M_step 396 = .ok (.iload_n 1, 1) := by decide +kernel
theorem d_M_step_397 : decode b_M_step 397 = .ok (.dup2, 1) := by decide +kernel
theorem d_M_step_398 : decode b_M_step 398 = .ok (.laload, 1) := by decide +kernel
theorem d_M_step_399 : decode b_M_step 399 = .ok (.lload 33, 2) := by decide +kernel
theorem d_M_step_401 : decode b_M_step 401 = .ok (.ladd, 1) := by decide +kernel
theorem d_M_step_402 : decode b_M_step 402 = .ok (.lastore, 1) := by decide +kernel
theorem d_M_step_403 : decode b_M_step 403 = .ok (.iconst 0, 1) := by decide +kernel
theorem d_M_step_404 : decode b_M_step 404 = .ok (.istore 35, 2) := by decide +kernel
theorem d_M_step_406 : decode b_M_step 406 = .ok (.iload 35, 2) := by decide +kernel
theorem d_M_step_408 : decode b_M_step 408 = .ok (.bipush 12, 2) := by decide +kernel
theorem d_M_step_410 : decode b_M_step 410 = .ok (.if_icmp .ge 52, 3) := by decide +kernel
theorem d_M_step_413 : decode b_M_step 413 = .ok (.aload_n 0, 1) := by decide +kernel
theorem d_M_step_414 : decode b_M_step 414 = .ok (.getfield 75, 3) := by decide +kernel
theorem d_M_step_417 : decode b_M_step 417 = .ok (.iload 35, 2) := by decide +kernel
theorem d_M_step_419 : decode b_M_step 419 = .ok (.aload_n 0, 1) := by decide +kernel
theorem d_M_step_420 : decode b_M_step 420 = .ok (.iload 35, 2) := by decide +kernel
theorem d_M_step_422 : decode b_M_step 422 = .ok (.iload_n 1, 1) := by decide +kernel
theorem d_M_step_423 : decode b_M_step 423 = .ok (.aload_n 0, 1) := by decide +kernel
theorem d_M_step_424 : decode b_M_step 424 = .ok (.getfield 63, 3) := by decide +kernel
theorem d_M_step_427 : decode b_M_step 427 = .ok (.iload_n 1, 1) := by decide +kernel
theorem d_M_step_428 : decode b_M_step 428 = .ok (.iaload, 1) := by decide +kernel
theorem d_M_step_429 : decode b_M_step 429 = .ok (.invokevirtual 160, 3) := by decide +kernel
theorem d_M_step_432 : decode b_M_step 432 = .ok (.ifCond .eq 16, 3) := by decide +kernel
theorem d_M_step_435 : decode b_M_step 435 = .ok (.aload_n 0, 1) := by decide +kernel
theorem d_M_step_436 : decode b_M_step 436 = .ok (.getfield 75, 3) := by decide +kernel
theorem d_M_step_439 : decode b_M_step 439 = .ok (.iload 35, 2) := by decide +kernel
theorem d_M_step_441 : decode b_M_step 441 = .ok (.laload, 1) := by decide +kernel
theorem d_M_step_442 : decode b_M_step 442 = .ok (.lload 33, 2) := by decide +kernel
theorem d_M_step_444 : decode b_M_step 444 = .ok (.ladd, 1) := by decide +kernel
theorem d_M_step_445 : decode b_M_step 445 = .ok (.goto 10, 3) := by decide +kernel
theorem d_M_step_448 : decode b_M_step 448 = .ok (.aload_n 0, 1) := by decide +kernel
theorem d_M_step_449 : decode b_M_step 449 = .ok (.getfield 75, 3) := by decide +kernel
theorem d_M_step_452 : decode b_M_step 452 = .ok (.iload 35, 2) := by decide +kernel
theorem d_M_step_454 : decode b_M_step 454 = .ok (.laload, 1) := by decide +kernel
theorem d_M_step_455 : decode b_M_step 455 = .ok (.lastore, 1) := by decide +kernel
theorem d_M_step_456 : decode b_M_step 456 = .ok (.iinc 35 1, 3) := by decide +kernel
theorem d_M_step_459 : decode b_M_step 459 = .ok (.goto (-53), 3) := by decide +kernel
theorem d_M_step_462 : decode b_M_step 462 = .ok (.lload 21, 2) := by decide +kernel
theorem d_M_step_464 : decode b_M_step 464 = .ok (.lload 9, 2) := by decide +kernel
theorem d_M_step_466 : decode b_M_step 466 = .ok (.lcmp, 1) := by decide +kernel
theorem d_M_step_467 : decode b_M_step 467 = .ok (.ifCond .eq 7, 3) := by decide +kernel
theorem d_M_step_470 : decode b_M_step 470 = .ok (.iconst 1, 1) := by decide +kernel
theorem d_M_step_471 : decode b_M_step 471 = .ok (.goto 4, 3) := by decide +kernel
theorem d_M_step_474 : decode b_M_step 474 = .ok (.iconst 0, 1) := by decide +kernel
theorem d_M_step_475 : decode b_M_step 475 = .ok (.istore 33, 2) := by decide +kernel
theorem d_M_step_477 : decode b_M_step 477 = .ok (.aload_n 0, 1) := by decide +kernel
theorem d_M_step_478 : decode b_M_step 478 = .ok (.getfield 60, 3) := by decide +kernel
theorem d_M_step_481 : decode b_M_step 481 = .ok (.iload_n 1, 1) := by decide +kernel
theorem d_M_step_482 : decode b_M_step 482 = .ok (.lload 21, 2) := by decide +kernel
theorem d_M_step_484 : decode b_M_step 484 = .ok (.lastore, 1) := by decide +kernel
theorem d_M_step_485 : decode b_M_step 485 = .ok (.lload 21, 2) := by decide +kernel
theorem d_M_step_487 : decode b_M_step 487 = .ok (.lload 11, 2) := by decide +kernel
theorem d_M_step_489 : decode b_M_step 489 = .ok (.lcmp, 1) := by decide +kernel
theorem d_M_step_490 : decode b_M_step 490 = .ok (.ifCond .ne 25, 3) := by decide +kernel
theorem d_M_step_493 : decode b_M_step 493 = .ok (.aload_n 0, 1) := by decide +kernel
theorem d_M_step_494 : decode b_M_step 494 = .ok (.getfield 63, 3) := by decide +kernel
theorem d_M_step_497 : decode b_M_step 497 = .ok (.iload_n 1, 1) := by decide +kernel
theorem d_M_step_498 : decode b_M_step 498 = .ok (.iload_n 2, 1) := by decide +kernel
theorem d_M_step_499 : decode b_M_step 499 = .ok (.ifCond .eq 10, 3) := by decide +kernel
theorem d_M_step_502 : decode b_M_step 502 = .ok (.iload 8, 2) := by decide +kernel
theorem d_M_step_504 : decode b_M_step 504 = .ok (.iconst 1, 1) := by decide +kernel
theorem d_M_step_505 : decode b_M_step 505 = .ok (.isub, 1) := by decide +kernel
theorem d_M_step_506 : decode b_M_step 506 = .ok (.goto 5, 3) := by decide +kernel
theorem d_M_step_509 : decode b_M_step 509 = .ok (.iload 8, 2) := by decide +kernel
theorem d_M_step_511 : decode b_M_step 511 = .ok (.iastore, 1) := by decide +kernel
theorem d_M_step_512 : decode b_M_step 512 = .ok (.goto 47, 3) := by decide +kernel
theorem d_M_step_515 : decode b_M_step 515 = .ok (.iload 33, 2) := by decide +kernel
theorem d_M_step_517 : decode b_M_step 517 = .ok (.ifCond .eq 42, 3) := by decide +kernel
theorem d_M_step_520 : decode b_M_step 520 = .ok (.bipush (-40), 2) := by decide +kernel
theorem d_M_step_522 : decode b_M_step 522 = .ok (.istore 34, 2) := by decide +kernel
theorem d_M_step_524 : decode b_M_step 524 = .ok (.iload 34, 2) := by decide +kernel
theorem d_M_step_526 : decode b_M_step 526 = .ok (.bipush 40, 2) := by decide +kernel
theorem d_M_step_528 : decode b_M_step 528 = .ok (.if_icmp .ge 23, 3) := by decide +kernel
theorem d_M_step_531 : decode b_M_step 531 = .ok (.aload_n 0, 1) := by decide +kernel
theorem d_M_step_532 : decode b_M_step 532 = .ok (.iload 34, 2) := by decide +kernel
theorem d_M_step_534 : decode b_M_step 534 = .ok (.iconst 1, 1) := by decide +kernel
theorem d_M_step_535 : decode b_M_step 535 = .ok (.iadd, 1) := by decide +kernel
theorem d_M_step_536 : decode b_M_step 536 = .ok (.invokevirtual 100, 3) := by decide +kernel
theorem d_M_step_539 : decode b_M_step 539 = .ok (.lload 21, 2) := by decide +kernel
theorem d_M_step_541 : decode b_M_step 541 = .ok (.lcmp, 1) := by decide +kernel
theorem d_M_step_542 : decode b_M_step 542 = .ok (.ifCond .gt 9, 3) := by decide +kernel
theorem d_M_step_545 : decode b_M_step 545 = .ok (.iinc 34 1, 3) := by decide +kernel
theorem d_M_step_548 : decode b_M_step 548 = .ok (.goto (-24), 3) := by decide +kernel
theorem d_M_step_551 : decode b_M_step 551 = .ok (.aload_n 0, 1) := by decide +kernel
theorem d_M_step_552 : decode b_M_step 552 = .ok (.getfield 63, 3) := by decide +kernel
theorem d_M_step_555 : decode b_M_step 555 = .ok (.iload_n 1, 1) := by decide +kernel
theorem d_M_step_556 : decode b_M_step 556 = .ok (.iload 34, 2) := by decide +kernel
theorem d_M_step_558 : decode b_M_step 558 = .ok (.iastore, 1) := by decide +kernel
theorem d_M_step_559 : decode b_M_step 559 = .ok (.iload_n 3, 1) := by decide +kernel
theorem d_M_step_560 : decode b_M_step 560 = .ok (.ifCond .eq 14, 3) := by decide +kernel
theorem d_M_step_563 : decode b_M_step 563 = .ok (.lload 4, 2) := by decide +kernel
theorem d_M_step_565 : decode b_M_step 565 = .ok (.lload 27, 2) := by decide +kernel
theorem d_M_step_567 : decode b_M_step 567 = .ok (.lsub, 1) := by decide +kernel
theorem d_M_step_568 : decode b_M_step 568 = .ok (.lload 31, 2) := by decide +kernel
theorem d_M_step_570 : decode b_M_step 570 = .ok (.lsub, 1) := by decide +kernel
theorem d_M_step_571 : decode b_M_step 571 = .ok (.goto 8, 3) := by decide +kernel
theorem d_M_step_574 : decode b_M_step 574 = .ok (.lload 4, 2) := by decide +kernel
theorem d_M_step_576 : decode b_M_step 576 = .ok (.lload 29, 2) := by decide +kernel
theorem d_M_step_578 : decode b_M_step 578 = .ok (.lsub, 1) := by decide +kernel
theorem d_M_step_579 : decode b_M_step 579 = .ok (.lreturn, 1) := by decide +kernel
abbrev b_M_work : ByteArray := prog_9_method_32_code
def y_M_work : MethodName := ⟨"RangeExchangeModel", "work", "(IZZJJ)V"⟩
theorem d_M_work_0 : decode b_M_work 0 = .ok (.aload_n 0, 1) := by decide +kernel
theorem d_M_work_1 : decode b_M_work 1 = .ok (.getfield 60, 3) := by decide +kernel
theorem d_M_work_4 : decode b_M_work 4 = .ok (.iload_n 1, 1) := by decide +kernel
theorem d_M_work_5 : decode b_M_work 5 = .ok (.aload_n 0, 1) := by decide +kernel
theorem d_M_work_6 : decode b_M_work 6 = .ok (.getfield 26, 3) := by decide +kernel
theorem d_M_work_9 : decode b_M_work 9 = .ok (.iload_n 1, 1) := by decide +kernel
theorem d_M_work_10 : decode b_M_work 10 = .ok (.laload, 1) := by decide +kernel
theorem d_M_work_11 : decode b_M_work 11 = .ok (.lastore, 1) := by decide +kernel
theorem d_M_work_12 : decode b_M_work 12 = .ok (.aload_n 0, 1) := by decide +kernel
theorem d_M_work_13 : decode b_M_work 13 = .ok (.getfield 63, 3) := by decide +kernel
theorem d_M_work_16 : decode b_M_work 16 = .ok (.iload_n 1, 1) := by decide +kernel
theorem d_M_work_17 : decode b_M_work 17 = .ok (.aload_n 0, 1) := by decide +kernel
theorem d_M_work_18 : decode b_M_work 18 = .ok (.getfield 29, 3) := by decide +kernel
theorem d_M_work_21 : decode b_M_work 21 = .ok (.iload_n 1, 1) := by decide +kernel
theorem d_M_work_22 : decode b_M_work 22 = .ok (.iaload, 1) := by decide +kernel
theorem d_M_work_23 : decode b_M_work 23 = .ok (.iastore, 1) := by decide +kernel
theorem d_M_work_24 : decode b_M_work 24 = .ok (.aload_n 0, 1) := by decide +kernel
theorem d_M_work_25 : decode b_M_work 25 = .ok (.getfield 66, 3) := by decide +kernel
theorem d_M_work_28 : decode b_M_work 28 = .ok (.iload_n 1, 1) := by decide +kernel
theorem d_M_work_29 : decode b_M_work 29 = .ok (.lconst 0, 1) := by decide +kernel
theorem d_M_work_30 : decode b_M_work 30 = .ok (.lastore, 1) := by decide +kernel
theorem d_M_work_31 : decode b_M_work 31 = .ok (.aload_n 0, 1) := by decide +kernel
theorem d_M_work_32 : decode b_M_work 32 = .ok (.getfield 69, 3) := by decide +kernel
theorem d_M_work_35 : decode b_M_work 35 = .ok (.iload_n 1, 1) := by decide +kernel
theorem d_M_work_36 : decode b_M_work 36 = .ok (.lconst 0, 1) := by decide +kernel
theorem d_M_work_37 : decode b_M_work 37 = .ok (.lastore, 1) := by decide +kernel
theorem d_M_work_38 : decode b_M_work 38 = .ok (.aload_n 0, 1) := by decide +kernel
theorem d_M_work_39 : decode b_M_work 39 = .ok (.getfield 72, 3) := by decide +kernel
theorem d_M_work_42 : decode b_M_work 42 = .ok (.iload_n 1, 1) := by decide +kernel
theorem d_M_work_43 : decode b_M_work 43 = .ok (.lconst 0, 1) := by decide +kernel
theorem d_M_work_44 : decode b_M_work 44 = .ok (.lastore, 1) := by decide +kernel
theorem d_M_work_45 : decode b_M_work 45 = .ok (.iconst 0, 1) := by decide +kernel
theorem d_M_work_46 : decode b_M_work 46 = .ok (.istore 8, 2) := by decide +kernel
theorem d_M_work_48 : decode b_M_work 48 = .ok (.iload 8, 2) := by decide +kernel
theorem d_M_work_50 : decode b_M_work 50 = .ok (.bipush 12, 2) := by decide +kernel
theorem d_M_work_52 : decode b_M_work 52 = .ok (.if_icmp .ge 38, 3) := by decide +kernel
theorem d_M_work_55 : decode b_M_work 55 = .ok (.aload_n 0, 1) := by decide +kernel
theorem d_M_work_56 : decode b_M_work 56 = .ok (.getfield 75, 3) := by decide +kernel
theorem d_M_work_59 : decode b_M_work 59 = .ok (.iload 8, 2) := by decide +kernel
theorem d_M_work_61 : decode b_M_work 61 = .ok (.aload_n 0, 1) := by decide +kernel
theorem d_M_work_62 : decode b_M_work 62 = .ok (.getfield 42, 3) := by decide +kernel
theorem d_M_work_65 : decode b_M_work 65 = .ok (.iload 8, 2) := by decide +kernel
theorem d_M_work_67 : decode b_M_work 67 = .ok (.iaload, 1) := by decide +kernel
theorem d_M_work_68 : decode b_M_work 68 = .ok (.iload_n 1, 1) := by decide +kernel
theorem d_M_work_69 : decode b_M_work 69 = .ok (.if_icmp .ne 7, 3) := by decide +kernel
theorem d_M_work_72 : decode b_M_work 72 = .ok (.lconst 0, 1) := by decide +kernel
theorem d_M_work_73 : decode b_M_work 73 = .ok (.goto 10, 3) := by decide +kernel
theorem d_M_work_76 : decode b_M_work 76 = .ok (.aload_n 0, 1) := by decide +kernel
theorem d_M_work_77 : decode b_M_work 77 = .ok (.getfield 75, 3) := by decide +kernel
theorem d_M_work_80 : decode b_M_work 80 = .ok (.iload 8, 2) := by decide +kernel
theorem d_M_work_82 : decode b_M_work 82 = .ok (.laload, 1) := by decide +kernel
theorem d_M_work_83 : decode b_M_work 83 = .ok (.lastore, 1) := by decide +kernel
theorem d_M_work_84 : decode b_M_work 84 = .ok (.iinc 8 1, 3) := by decide +kernel
theorem d_M_work_87 : decode b_M_work 87 = .ok (.goto (-39), 3) := by decide +kernel
theorem d_M_work_90 : decode b_M_work 90 = .ok (.lload 4, 2) := by decide +kernel
theorem d_M_work_92 : decode b_M_work 92 = .ok (.lstore 8, 2) := by decide +kernel
theorem d_M_work_94 : decode b_M_work 94 = .ok (.lload 8, 2) := by decide +kernel
theorem d_M_work_96 : decode b_M_work 96 = .ok (.lconst 0, 1) := by decide +kernel
theorem d_M_work_97 : decode b_M_work 97 = .ok (.lcmp, 1) := by decide +kernel
theorem d_M_work_98 : decode b_M_work 98 = .ok (.ifCond .eq 31, 3) := by decide +kernel
theorem d_M_work_101 : decode b_M_work 101 = .ok (.aload_n 0, 1) := by decide +kernel
theorem d_M_work_102 : decode b_M_work 102 = .ok (.getfield 60, 3) := by decide +kernel
theorem d_M_work_105 : decode b_M_work 105 = .ok (.iload_n 1, 1) := by decide +kernel
theorem d_M_work_106 : decode b_M_work 106 = .ok (.laload, 1) := by decide +kernel
theorem d_M_work_107 : decode b_M_work 107 = .ok (.lload 6, 2) := by decide +kernel
theorem d_M_work_109 : decode b_M_work 109 = .ok (.lcmp, 1) := by decide +kernel
theorem d_M_work_110 : decode b_M_work 110 = .ok (.ifCond .eq 19, 3) := by decide +kernel
theorem d_M_work_113 : decode b_M_work 113 = .ok (.aload_n 0, 1) := by decide +kernel
theorem d_M_work_114 : decode b_M_work 114 = .ok (.iload_n 1, 1) := by decide +kernel
theorem d_M_work_115 : decode b_M_work 115 = .ok (.iload_n 2, 1) := by decide +kernel
theorem d_M_work_116 : decode b_M_work 116 = .ok (.iload_n 3, 1) := by decide +kernel
theorem d_M_work_117 : decode b_M_work 117 = .ok (.lload 8, 2) := by decide +kernel
theorem d_M_work_119 : decode b_M_work 119 = .ok (.lload 6, 2) := by decide +kernel
theorem d_M_work_121 : decode b_M_work 121 = .ok (.invokevirtual 185, 3) := by decide +kernel
theorem d_M_work_124 : decode b_M_work 124 = .ok (.lstore 8, 2) := by decide +kernel
theorem d_M_work_126 : decode b_M_work 126 = .ok (.goto (-32), 3) := by decide +kernel
theorem d_M_work_129 : decode b_M_work 129 = .ok (.return_, 1) := by decide +kernel
