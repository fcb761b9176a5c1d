-- the law, on
theorem d_L_law_148 : decode b_L_law 148 = .ok (.iconst 3, 1) := by decide +kernel
theorem d_L_law_149 : decode b_L_law 149 = .ok (.iadd, 1) := by decide +kernel
theorem d_L_law_150 : decode b_L_law 150 = .ok (.iaload, 1) := by decide +kernel
theorem d_L_law_151 : decode b_L_law 151 = .ok (.aload_n 3, 1) := by decide +kernel
theorem d_L_law_152 : decode b_L_law 152 = .ok (.invokestatic 72, 3) := by decide +kernel
theorem d_L_law_155 : decode b_L_law 155 = .ok (.istore 5, 2) := by decide +kernel
theorem d_L_law_157 : decode b_L_law 157 = .ok (.aload_n 2, 1) := by decide +kernel
theorem d_L_law_158 : decode b_L_law 158 = .ok (.aload_n 0, 1) := by decide +kernel
theorem d_L_law_159 : decode b_L_law 159 = .ok (.iload 4, 2) := by decide +kernel
theorem d_L_law_161 : decode b_L_law 161 = .ok (.iconst 1, 1) := by decide +kernel
theorem d_L_law_162 : decode b_L_law 162 = .ok (.iadd, 1) := by decide +kernel
theorem d_L_law_163 : decode b_L_law 163 = .ok (.iaload, 1) := by decide +kernel
theorem d_L_law_164 : decode b_L_law 164 = .ok (.aload_n 0, 1) := by decide +kernel
theorem d_L_law_165 : decode b_L_law 165 = .ok (.iload 4, 2) := by decide +kernel
theorem d_L_law_167 : decode b_L_law 167 = .ok (.iconst 2, 1) := by decide +kernel
theorem d_L_law_168 : decode b_L_law 168 = .ok (.iadd, 1) := by decide +kernel
theorem d_L_law_169 : decode b_L_law 169 = .ok (.iaload, 1) := by decide +kernel
theorem d_L_law_170 : decode b_L_law 170 = .ok (.aload_n 0, 1) := by decide +kernel
theorem d_L_law_171 : decode b_L_law 171 = .ok (.iload 4, 2) := by decide +kernel
theorem d_L_law_173 : decode b_L_law 173 = .ok (.iconst 3, 1) := by decide +kernel
theorem d_L_law_174 : decode b_L_law 174 = .ok (.iadd, 1) := by decide +kernel
theorem d_L_law_175 : decode b_L_law 175 = .ok (.iaload, 1) := by decide +kernel
theorem d_L_law_176 : decode b_L_law 176 = .ok (.invokevirtual 75, 3) := by decide +kernel
theorem d_L_law_179 : decode b_L_law 179 = .ok (.lstore 6, 2) := by decide +kernel
theorem d_L_law_181 : decode b_L_law 181 = .ok (.aload_n 2, 1) := by decide +kernel
theorem d_L_law_182 : decode b_L_law 182 = .ok (.invokevirtual 76, 3) := by decide +kernel
theorem d_L_law_185 : decode b_L_law 185 = .ok (.iload 5, 2) := by decide +kernel
theorem d_L_law_187 : decode b_L_law 187 = .ok (.if_icmp .eq 5, 3) := by decide +kernel
theorem d_L_law_190 : decode b_L_law 190 = .ok (.iconst 0, 1) := by decide +kernel
theorem d_L_law_191 : decode b_L_law 191 = .ok (.ireturn, 1) := by decide +kernel
theorem d_L_law_192 : decode b_L_law 192 = .ok (.iload 5, 2) := by decide +kernel
theorem d_L_law_194 : decode b_L_law 194 = .ok (.ifCond .ne 14, 3) := by decide +kernel
theorem d_L_law_197 : decode b_L_law 197 = .ok (.aload_n 3, 1) := by decide +kernel
theorem d_L_law_198 : decode b_L_law 198 = .ok (.iconst 0, 1) := by decide +kernel
theorem d_L_law_199 : decode b_L_law 199 = .ok (.laload, 1) := by decide +kernel
theorem d_L_law_200 : decode b_L_law 200 = .ok (.lload 6, 2) := by decide +kernel
theorem d_L_law_202 : decode b_L_law 202 = .ok (.lcmp, 1) := by decide +kernel
theorem d_L_law_203 : decode b_L_law 203 = .ok (.ifCond .eq 5, 3) := by decide +kernel
theorem d_L_law_206 : decode b_L_law 206 = .ok (.iconst 0, 1) := by decide +kernel
theorem d_L_law_207 : decode b_L_law 207 = .ok (.ireturn, 1) := by decide +kernel
theorem d_L_law_208 : decode b_L_law 208 = .ok (.goto 944, 3) := by decide +kernel
theorem d_L_law_211 : decode b_L_law 211 = .ok (.aload_n 1, 1) := by decide +kernel
theorem d_L_law_212 : decode b_L_law 212 = .ok (.aload_n 0, 1) := by decide +kernel
theorem d_L_law_213 : decode b_L_law 213 = .ok (.iload 4, 2) := by decide +kernel
theorem d_L_law_215 : decode b_L_law 215 = .ok (.iconst 1, 1) := by decide +kernel
theorem d_L_law_216 : decode b_L_law 216 = .ok (.iadd, 1) := by decide +kernel
theorem d_L_law_217 : decode b_L_law 217 = .ok (.iaload, 1) := by decide +kernel
theorem d_L_law_218 : decode b_L_law 218 = .ok (.aload_n 0, 1) := by decide +kernel
theorem d_L_law_219 : decode b_L_law 219 = .ok (.iload 4, 2) := by decide +kernel
theorem d_L_law_221 : decode b_L_law 221 = .ok (.iconst 2, 1) := by decide +kernel
theorem d_L_law_222 : decode b_L_law 222 = .ok (.iadd, 1) := by decide +kernel
theorem d_L_law_223 : decode b_L_law 223 = .ok (.iaload, 1) := by decide +kernel
theorem d_L_law_224 : decode b_L_law 224 = .ok (.aload_n 3, 1) := by decide +kernel
theorem d_L_law_225 : decode b_L_law 225 = .ok (.invokestatic 80, 3) := by decide +kernel
theorem d_L_law_228 : decode b_L_law 228 = .ok (.istore 5, 2) := by decide +kernel
theorem d_L_law_230 : decode b_L_law 230 = .ok (.aload_n 2, 1) := by decide +kernel
theorem d_L_law_231 : decode b_L_law 231 = .ok (.aload_n 0, 1) := by decide +kernel
theorem d_L_law_232 : decode b_L_law 232 = .ok (.iload 4, 2) := by decide +kernel
theorem d_L_law_234 : decode b_L_law 234 = .ok (.iconst 1, 1) := by decide +kernel
theorem d_L_law_235 : decode b_L_law 235 = .ok (.iadd, 1) := by decide +kernel
theorem d_L_law_236 : decode b_L_law 236 = .ok (.iaload, 1) := by decide +kernel
theorem d_L_law_237 : decode b_L_law 237 = .ok (.aload_n 0, 1) := by decide +kernel
theorem d_L_law_238 : decode b_L_law 238 = .ok (.iload 4, 2) := by decide +kernel
theorem d_L_law_240 : decode b_L_law 240 = .ok (.iconst 2, 1) := by decide +kernel
theorem d_L_law_241 : decode b_L_law 241 = .ok (.iadd, 1) := by decide +kernel
theorem d_L_law_242 : decode b_L_law 242 = .ok (.iaload, 1) := by decide +kernel
theorem d_L_law_243 : decode b_L_law 243 = .ok (.invokevirtual 83, 3) := by decide +kernel
theorem d_L_law_246 : decode b_L_law 246 = .ok (.lstore 6, 2) := by decide +kernel
theorem d_L_law_248 : decode b_L_law 248 = .ok (.aload_n 2, 1) := by decide +kernel
theorem d_L_law_249 : decode b_L_law 249 = .ok (.invokevirtual 76, 3) := by decide +kernel
theorem d_L_law_252 : decode b_L_law 252 = .ok (.iload 5, 2) := by decide +kernel
theorem d_L_law_254 : decode b_L_law 254 = .ok (.if_icmp .eq 5, 3) := by decide +kernel
theorem d_L_law_257 : decode b_L_law 257 = .ok (.iconst 0, 1) := by decide +kernel
theorem d_L_law_258 : decode b_L_law 258 = .ok (.ireturn, 1) := by decide +kernel
theorem d_L_law_259 : decode b_L_law 259 = .ok (.iload 5, 2) := by decide +kernel
theorem d_L_law_261 : decode b_L_law 261 = .ok (.ifCond .ne 14, 3) := by decide +kernel
theorem d_L_law_264 : decode b_L_law 264 = .ok (.aload_n 3, 1) := by decide +kernel
theorem d_L_law_265 : decode b_L_law 265 = .ok (.iconst 0, 1) := by decide +kernel
theorem d_L_law_266 : decode b_L_law 266 = .ok (.laload, 1) := by decide +kernel
theorem d_L_law_267 : decode b_L_law 267 = .ok (.lload 6, 2) := by decide +kernel
theorem d_L_law_269 : decode b_L_law 269 = .ok (.lcmp, 1) := by decide +kernel
theorem d_L_law_270 : decode b_L_law 270 = .ok (.ifCond .eq 5, 3) := by decide +kernel
theorem d_L_law_273 : decode b_L_law 273 = .ok (.iconst 0, 1) := by decide +kernel
theorem d_L_law_274 : decode b_L_law 274 = .ok (.ireturn, 1) := by decide +kernel
theorem d_L_law_275 : decode b_L_law 275 = .ok (.goto 877, 3) := by decide +kernel
theorem d_L_law_278 : decode b_L_law 278 = .ok (.aload_n 1, 1) := by decide +kernel
theorem d_L_law_279 : decode b_L_law 279 = .ok (.aload_n 0, 1) := by decide +kernel
theorem d_L_law_280 : decode b_L_law 280 = .ok (.iload 4, 2) := by decide +kernel
theorem d_L_law_282 : decode b_L_law 282 = .ok (.iconst 1, 1) := by decide +kernel
theorem d_L_law_283 : decode b_L_law 283 = .ok (.iadd, 1) := by decide +kernel
theorem d_L_law_284 : decode b_L_law 284 = .ok (.iaload, 1) := by decide +kernel
theorem d_L_law_285 : decode b_L_law 285 = .ok (.aload_n 0, 1) := by decide +kernel
theorem d_L_law_286 : decode b_L_law 286 = .ok (.iload 4, 2) := by decide +kernel
theorem d_L_law_288 : decode b_L_law 288 = .ok (.iconst 2, 1) := by decide +kernel
theorem d_L_law_289 : decode b_L_law 289 = .ok (.iadd, 1) := by decide +kernel
theorem d_L_law_290 : decode b_L_law 290 = .ok (.iaload, 1) := by decide +kernel
theorem d_L_law_291 : decode b_L_law 291 = .ok (.aload_n 0, 1) := by decide +kernel
theorem d_L_law_292 : decode b_L_law 292 = .ok (.iload 4, 2) := by decide +kernel
theorem d_L_law_294 : decode b_L_law 294 = .ok (.iconst 3, 1) := by decide +kernel
theorem d_L_law_295 : decode b_L_law 295 = .ok (.iadd, 1) := by decide +kernel
theorem d_L_law_296 : decode b_L_law 296 = .ok (.iaload, 1) := by decide +kernel
theorem d_L_law_297 : decode b_L_law 297 = .ok (.aload_n 0, 1) := by decide +kernel
theorem d_L_law_298 : decode b_L_law 298 = .ok (.iload 4, 2) := by decide +kernel
theorem d_L_law_300 : decode b_L_law 300 = .ok (.iconst 4, 1) := by decide +kernel
theorem d_L_law_301 : decode b_L_law 301 = .ok (.iadd, 1) := by decide +kernel
theorem d_L_law_302 : decode b_L_law 302 = .ok (.iaload, 1) := by decide +kernel
theorem d_L_law_303 : decode b_L_law 303 = .ok (.aload_n 0, 1) := by decide +kernel
theorem d_L_law_304 : decode b_L_law 304 = .ok (.iload 4, 2) := by decide +kernel
theorem d_L_law_306 : decode b_L_law 306 = .ok (.iconst 5, 1) := by decide +kernel
theorem d_L_law_307 : decode b_L_law 307 = .ok (.iadd, 1) := by decide +kernel
theorem d_L_law_308 : decode b_L_law 308 = .ok (.iaload, 1) := by decide +kernel
theorem d_L_law_309 : decode b_L_law 309 = .ok (.aload_n 3, 1) := by decide +kernel
theorem d_L_law_310 : decode b_L_law 310 = .ok (.invokestatic 84, 3) := by decide +kernel
theorem d_L_law_313 : decode b_L_law 313 = .ok (.istore 5, 2) := by decide +kernel
theorem d_L_law_315 : decode b_L_law 315 = .ok (.aload_n 2, 1) := by decide +kernel
theorem d_L_law_316 : decode b_L_law 316 = .ok (.aload_n 0, 1) := by decide +kernel
theorem d_L_law_317 : decode b_L_law 317 = .ok (.iload 4, 2) := by decide +kernel
theorem d_L_law_319 : decode b_L_law 319 = .ok (.iconst 1, 1) := by decide +kernel
theorem d_L_law_320 : decode b_L_law 320 = .ok (.iadd, 1) := by decide +kernel
theorem d_L_law_321 : decode b_L_law 321 = .ok (.iaload, 1) := by decide +kernel
theorem d_L_law_322 : decode b_L_law 322 = .ok (.aload_n 0, 1) := by decide +kernel
theorem d_L_law_323 : decode b_L_law 323 = .ok (.iload 4, 2) := by decide +kernel
theorem d_L_law_325 : decode b_L_law 325 = .ok (.iconst 2, 1) := by decide +kernel
theorem d_L_law_326 : decode b_L_law 326 = .ok (.iadd, 1) := by decide +kernel
theorem d_L_law_327 : decode b_L_law 327 = .ok (.iaload, 1) := by decide +kernel
theorem d_L_law_328 : decode b_L_law 328 = .ok (.aload_n 0, 1) := by decide +kernel
theorem d_L_law_329 : decode b_L_law 329 = .ok (.iload 4, 2) := by decide +kernel
theorem d_L_law_331 : decode b_L_law 331 = .ok (.iconst 3, 1) := by decide +kernel
theorem d_L_law_332 : decode b_L_law 332 = .ok (.iadd, 1) := by decide +kernel
theorem d_L_law_333 : decode b_L_law 333 = .ok (.iaload, 1) := by decide +kernel
theorem d_L_law_334 : decode b_L_law 334 = .ok (.aload_n 0, 1) := by decide +kernel
theorem d_L_law_335 : decode b_L_law 335 = .ok (.iload 4, 2) := by decide +kernel
theorem d_L_law_337 : decode b_L_law 337 = .ok (.iconst 4, 1) := by decide +kernel
theorem d_L_law_338 : decode b_L_law 338 = .ok (.iadd, 1) := by decide +kernel
theorem d_L_law_339 : decode b_L_law 339 = .ok (.iaload, 1) := by decide +kernel
theorem d_L_law_340 : decode b_L_law 340 = .ok (.aload_n 0, 1) := by decide +kernel
theorem d_L_law_341 : decode b_L_law 341 = .ok (.iload 4, 2) := by decide +kernel
theorem d_L_law_343 : decode b_L_law 343 = .ok (.iconst 5, 1) := by decide +kernel
theorem d_L_law_344 : decode b_L_law 344 = .ok (.iadd, 1) := by decide +kernel
theorem d_L_law_345 : decode b_L_law 345 = .ok (.iaload, 1) := by decide +kernel
theorem d_L_law_346 : decode b_L_law 346 = .ok (.invokevirtual 87, 3) := by decide +kernel
theorem d_L_law_349 : decode b_L_law 349 = .ok (.istore 6, 2) := by decide +kernel
theorem d_L_law_351 : decode b_L_law 351 = .ok (.aload_n 2, 1) := by decide +kernel
theorem d_L_law_352 : decode b_L_law 352 = .ok (.invokevirtual 76, 3) := by decide +kernel
theorem d_L_law_355 : decode b_L_law 355 = .ok (.iload 5, 2) := by decide +kernel
theorem d_L_law_357 : decode b_L_law 357 = .ok (.if_icmp .eq 5, 3) := by decide +kernel
theorem d_L_law_360 : decode b_L_law 360 = .ok (.iconst 0, 1) := by decide +kernel
theorem d_L_law_361 : decode b_L_law 361 = .ok (.ireturn, 1) := by decide +kernel
theorem d_L_law_362 : decode b_L_law 362 = .ok (.iload 5, 2) := by decide +kernel
theorem d_L_law_364 : decode b_L_law 364 = .ok (.ifCond .ne 15, 3) := by decide +kernel
theorem d_L_law_367 : decode b_L_law 367 = .ok (.aload_n 3, 1) := by decide +kernel
theorem d_L_law_368 : decode b_L_law 368 = .ok (.iconst 0, 1) := by decide +kernel
theorem d_L_law_369 : decode b_L_law 369 = .ok (.laload, 1) := by decide +kernel
theorem d_L_law_370 : decode b_L_law 370 = .ok (.iload 6, 2) := by decide +kernel
theorem d_L_law_372 : decode b_L_law 372 = .ok (.i2l, 1) := by decide +kernel
theorem d_L_law_373 : decode b_L_law 373 = .ok (.lcmp, 1) := by decide +kernel
theorem d_L_law_374 : decode b_L_law 374 = .ok (.ifCond .eq 5, 3) := by decide +kernel
theorem d_L_law_377 : decode b_L_law 377 = .ok (.iconst 0, 1) := by decide +kernel
theorem d_L_law_378 : decode b_L_law 378 = .ok (.ireturn, 1) := by decide +kernel
theorem d_L_law_379 : decode b_L_law 379 = .ok (.goto 773, 3) := by decide +kernel
theorem d_L_law_382 : decode b_L_law 382 = .ok (.aload_n 1, 1) := by decide +kernel
theorem d_L_law_383 : decode b_L_law 383 = .ok (.aload_n 0, 1) := by decide +kernel
theorem d_L_law_384 : decode b_L_law 384 = .ok (.iload 4, 2) := by decide +kernel
theorem d_L_law_386 : decode b_L_law 386 = .ok (.iconst 1, 1) := by decide +kernel
theorem d_L_law_387 : decode b_L_law 387 = .ok (.iadd, 1) := by decide +kernel
theorem d_L_law_388 : decode b_L_law 388 = .ok (.iaload, 1) := by decide +kernel
theorem d_L_law_389 : decode b_L_law 389 = .ok (.aload_n 0, 1) := by decide +kernel
theorem d_L_law_390 : decode b_L_law 390 = .ok (.iload 4, 2) := by decide +kernel
theorem d_L_law_392 : decode b_L_law 392 = .ok (.iconst 2, 1) := by decide +kernel
theorem d_L_law_393 : decode b_L_law 393 = .ok (.iadd, 1) := by decide +kernel
theorem d_L_law_394 : decode b_L_law 394 = .ok (.iaload, 1) := by decide +kernel
theorem d_L_law_395 : decode b_L_law 395 = .ok (.aload_n 0, 1) := by decide +kernel
theorem d_L_law_396 : decode b_L_law 396 = .ok (.iload 4, 2) := by decide +kernel
theorem d_L_law_398 : decode b_L_law 398 = .ok (.iconst 3, 1) := by decide +kernel
theorem d_L_law_399 : decode b_L_law 399 = .ok (.iadd, 1) := by decide +kernel
theorem d_L_law_400 : decode b_L_law 400 = .ok (.iaload, 1) := by decide +kernel
theorem d_L_law_401 : decode b_L_law 401 = .ok (.aload_n 0, 1) := by decide +kernel
theorem d_L_law_402 : decode b_L_law 402 = .ok (.iload 4, 2) := by decide +kernel
theorem d_L_law_404 : decode b_L_law 404 = .ok (.iconst 4, 1) := by decide +kernel
theorem d_L_law_405 : decode b_L_law 405 = .ok (.iadd, 1) := by decide +kernel

