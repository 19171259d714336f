theorem d_Law_law_165 : decode code 165 = .ok (.istore 6, 2) := by decide +kernel
theorem d_Law_law_167 : decode code 167 = .ok (.aload_n 2, 1) := by decide +kernel
theorem d_Law_law_168 : decode code 168 = .ok (.invokevirtual 65, 3) := by decide +kernel
theorem d_Law_law_171 : decode code 171 = .ok (.iload 5, 2) := by decide +kernel
theorem d_Law_law_173 : decode code 173 = .ok (.if_icmp .eq 5, 3) := by decide +kernel
theorem d_Law_law_178 : decode code 178 = .ok (.iload 5, 2) := by decide +kernel
theorem d_Law_law_180 : decode code 180 = .ok (.ifCond .ne 15, 3) := by decide +kernel
theorem d_Law_law_183 : decode code 183 = .ok (.aload_n 3, 1) := by decide +kernel
theorem d_Law_law_184 : decode code 184 = .ok (.iconst 0, 1) := by decide +kernel
theorem d_Law_law_185 : decode code 185 = .ok (.laload, 1) := by decide +kernel
theorem d_Law_law_186 : decode code 186 = .ok (.iload 6, 2) := by decide +kernel
theorem d_Law_law_188 : decode code 188 = .ok (.i2l, 1) := by decide +kernel
theorem d_Law_law_189 : decode code 189 = .ok (.lcmp, 1) := by decide +kernel
theorem d_Law_law_190 : decode code 190 = .ok (.ifCond .eq 5, 3) := by decide +kernel
theorem d_Law_law_195 : decode code 195 = .ok (.goto 431, 3) := by decide +kernel
theorem d_Law_law_198 : decode code 198 = .ok (.aload_n 1, 1) := by decide +kernel
theorem d_Law_law_199 : decode code 199 = .ok (.invokevirtual 68, 3) := by decide +kernel
theorem d_Law_law_202 : decode code 202 = .ok (.aload_n 2, 1) := by decide +kernel
theorem d_Law_law_203 : decode code 203 = .ok (.invokevirtual 71, 3) := by decide +kernel
theorem d_Law_law_206 : decode code 206 = .ok (.if_icmp .eq 420, 3) := by decide +kernel
theorem d_Law_law_211 : decode code 211 = .ok (.aload_n 1, 1) := by decide +kernel
theorem d_Law_law_212 : decode code 212 = .ok (.invokevirtual 72, 3) := by decide +kernel
theorem d_Law_law_215 : decode code 215 = .ok (.aload_n 2, 1) := by decide +kernel
theorem d_Law_law_216 : decode code 216 = .ok (.invokevirtual 75, 3) := by decide +kernel
theorem d_Law_law_219 : decode code 219 = .ok (.goto 407, 3) := by decide +kernel
theorem d_Law_law_222 : decode code 222 = .ok (.aload_n 1, 1) := by decide +kernel
theorem d_Law_law_223 : decode code 223 = .ok (.aload_n 0, 1) := by decide +kernel
theorem d_Law_law_224 : decode code 224 = .ok (.iload 4, 2) := by decide +kernel
theorem d_Law_law_226 : decode code 226 = .ok (.iconst 1, 1) := by decide +kernel
theorem d_Law_law_227 : decode code 227 = .ok (.iadd, 1) := by decide +kernel
theorem d_Law_law_228 : decode code 228 = .ok (.iaload, 1) := by decide +kernel
theorem d_Law_law_229 : decode code 229 = .ok (.aload_n 3, 1) := by decide +kernel
theorem d_Law_law_230 : decode code 230 = .ok (.invokestatic 76, 3) := by decide +kernel
theorem d_Law_law_233 : decode code 233 = .ok (.istore 5, 2) := by decide +kernel
theorem d_Law_law_235 : decode code 235 = .ok (.aload_n 2, 1) := by decide +kernel
theorem d_Law_law_236 : decode code 236 = .ok (.aload_n 0, 1) := by decide +kernel
theorem d_Law_law_237 : decode code 237 = .ok (.iload 4, 2) := by decide +kernel
theorem d_Law_law_239 : decode code 239 = .ok (.iconst 1, 1) := by decide +kernel
theorem d_Law_law_240 : decode code 240 = .ok (.iadd, 1) := by decide +kernel
theorem d_Law_law_241 : decode code 241 = .ok (.iaload, 1) := by decide +kernel
theorem d_Law_law_242 : decode code 242 = .ok (.invokevirtual 78, 3) := by decide +kernel
theorem d_Law_law_245 : decode code 245 = .ok (.istore 6, 2) := by decide +kernel
theorem d_Law_law_247 : decode code 247 = .ok (.aload_n 2, 1) := by decide +kernel
theorem d_Law_law_248 : decode code 248 = .ok (.invokevirtual 65, 3) := by decide +kernel
theorem d_Law_law_251 : decode code 251 = .ok (.iload 5, 2) := by decide +kernel
theorem d_Law_law_253 : decode code 253 = .ok (.if_icmp .eq 5, 3) := by decide +kernel
theorem d_Law_law_258 : decode code 258 = .ok (.iload 5, 2) := by decide +kernel
theorem d_Law_law_260 : decode code 260 = .ok (.ifCond .ne 22, 3) := by decide +kernel
theorem d_Law_law_282 : decode code 282 = .ok (.goto 344, 3) := by decide +kernel
theorem d_Law_law_285 : decode code 285 = .ok (.aload_n 1, 1) := by decide +kernel
theorem d_Law_law_286 : decode code 286 = .ok (.aload_n 3, 1) := by decide +kernel
theorem d_Law_law_287 : decode code 287 = .ok (.invokestatic 79, 3) := by decide +kernel
theorem d_Law_law_290 : decode code 290 = .ok (.istore 5, 2) := by decide +kernel
theorem d_Law_law_292 : decode code 292 = .ok (.aload_n 2, 1) := by decide +kernel
theorem d_Law_law_293 : decode code 293 = .ok (.invokevirtual 82, 3) := by decide +kernel
theorem d_Law_law_296 : decode code 296 = .ok (.istore 6, 2) := by decide +kernel
theorem d_Law_law_298 : decode code 298 = .ok (.aload_n 2, 1) := by decide +kernel
theorem d_Law_law_299 : decode code 299 = .ok (.invokevirtual 65, 3) := by decide +kernel
theorem d_Law_law_302 : decode code 302 = .ok (.iload 5, 2) := by decide +kernel
theorem d_Law_law_304 : decode code 304 = .ok (.if_icmp .eq 5, 3) := by decide +kernel
theorem d_Law_law_309 : decode code 309 = .ok (.iload 5, 2) := by decide +kernel
theorem d_Law_law_311 : decode code 311 = .ok (.ifCond .ne 22, 3) := by decide +kernel
theorem d_Law_law_333 : decode code 333 = .ok (.goto 293, 3) := by decide +kernel
theorem d_Law_law_336 : decode code 336 = .ok (.aload_n 1, 1) := by decide +kernel
theorem d_Law_law_337 : decode code 337 = .ok (.aload_n 0, 1) := by decide +kernel
theorem d_Law_law_338 : decode code 338 = .ok (.iload 4, 2) := by decide +kernel
theorem d_Law_law_340 : decode code 340 = .ok (.iconst 1, 1) := by decide +kernel
theorem d_Law_law_341 : decode code 341 = .ok (.iadd, 1) := by decide +kernel
theorem d_Law_law_342 : decode code 342 = .ok (.iaload, 1) := by decide +kernel
theorem d_Law_law_343 : decode code 343 = .ok (.aload_n 0, 1) := by decide +kernel
theorem d_Law_law_344 : decode code 344 = .ok (.iload 4, 2) := by decide +kernel
theorem d_Law_law_346 : decode code 346 = .ok (.iconst 2, 1) := by decide +kernel
theorem d_Law_law_347 : decode code 347 = .ok (.iadd, 1) := by decide +kernel
theorem d_Law_law_348 : decode code 348 = .ok (.iaload, 1) := by decide +kernel
theorem d_Law_law_349 : decode code 349 = .ok (.ifCond .eq 7, 3) := by decide +kernel
theorem d_Law_law_352 : decode code 352 = .ok (.iconst 1, 1) := by decide +kernel
theorem d_Law_law_353 : decode code 353 = .ok (.goto 4, 3) := by decide +kernel
theorem d_Law_law_356 : decode code 356 = .ok (.iconst 0, 1) := by decide +kernel
theorem d_Law_law_357 : decode code 357 = .ok (.aload_n 3, 1) := by decide +kernel
theorem d_Law_law_358 : decode code 358 = .ok (.invokestatic 83, 3) := by decide +kernel
theorem d_Law_law_361 : decode code 361 = .ok (.istore 5, 2) := by decide +kernel
theorem d_Law_law_363 : decode code 363 = .ok (.aload_n 2, 1) := by decide +kernel
theorem d_Law_law_364 : decode code 364 = .ok (.aload_n 0, 1) := by decide +kernel
theorem d_Law_law_365 : decode code 365 = .ok (.iload 4, 2) := by decide +kernel
theorem d_Law_law_367 : decode code 367 = .ok (.iconst 1, 1) := by decide +kernel
theorem d_Law_law_368 : decode code 368 = .ok (.iadd, 1) := by decide +kernel
theorem d_Law_law_369 : decode code 369 = .ok (.iaload, 1) := by decide +kernel
theorem d_Law_law_370 : decode code 370 = .ok (.aload_n 0, 1) := by decide +kernel
theorem d_Law_law_371 : decode code 371 = .ok (.iload 4, 2) := by decide +kernel
theorem d_Law_law_373 : decode code 373 = .ok (.iconst 2, 1) := by decide +kernel
theorem d_Law_law_374 : decode code 374 = .ok (.iadd, 1) := by decide +kernel
theorem d_Law_law_375 : decode code 375 = .ok (.iaload, 1) := by decide +kernel
theorem d_Law_law_376 : decode code 376 = .ok (.ifCond .eq 7, 3) := by decide +kernel
theorem d_Law_law_379 : decode code 379 = .ok (.iconst 1, 1) := by decide +kernel
theorem d_Law_law_380 : decode code 380 = .ok (.goto 4, 3) := by decide +kernel
theorem d_Law_law_383 : decode code 383 = .ok (.iconst 0, 1) := by decide +kernel
theorem d_Law_law_384 : decode code 384 = .ok (.invokevirtual 86, 3) := by decide +kernel
theorem d_Law_law_387 : decode code 387 = .ok (.istore 6, 2) := by decide +kernel
theorem d_Law_law_389 : decode code 389 = .ok (.aload_n 2, 1) := by decide +kernel
theorem d_Law_law_390 : decode code 390 = .ok (.invokevirtual 65, 3) := by decide +kernel
theorem d_Law_law_393 : decode code 393 = .ok (.iload 5, 2) := by decide +kernel
theorem d_Law_law_395 : decode code 395 = .ok (.if_icmp .eq 5, 3) := by decide +kernel
theorem d_Law_law_400 : decode code 400 = .ok (.iload 5, 2) := by decide +kernel
theorem d_Law_law_402 : decode code 402 = .ok (.ifCond .ne 15, 3) := by decide +kernel
theorem d_Law_law_417 : decode code 417 = .ok (.goto 209, 3) := by decide +kernel
theorem d_Law_law_420 : decode code 420 = .ok (.aload_n 1, 1) := by decide +kernel
theorem d_Law_law_421 : decode code 421 = .ok (.aload_n 3, 1) := by decide +kernel
theorem d_Law_law_422 : decode code 422 = .ok (.invokestatic 87, 3) := by decide +kernel
theorem d_Law_law_425 : decode code 425 = .ok (.istore 5, 2) := by decide +kernel
theorem d_Law_law_427 : decode code 427 = .ok (.aload_n 2, 1) := by decide +kernel
theorem d_Law_law_428 : decode code 428 = .ok (.invokevirtual 89, 3) := by decide +kernel
theorem d_Law_law_431 : decode code 431 = .ok (.istore 6, 2) := by decide +kernel
theorem d_Law_law_433 : decode code 433 = .ok (.aload_n 2, 1) := by decide +kernel
theorem d_Law_law_434 : decode code 434 = .ok (.invokevirtual 65, 3) := by decide +kernel
theorem d_Law_law_437 : decode code 437 = .ok (.iload 5, 2) := by decide +kernel
theorem d_Law_law_439 : decode code 439 = .ok (.if_icmp .eq 5, 3) := by decide +kernel
theorem d_Law_law_444 : decode code 444 = .ok (.iload 5, 2) := by decide +kernel
theorem d_Law_law_446 : decode code 446 = .ok (.ifCond .ne 15, 3) := by decide +kernel
theorem d_Law_law_461 : decode code 461 = .ok (.goto 165, 3) := by decide +kernel
theorem d_Law_law_464 : decode code 464 = .ok (.aload_n 1, 1) := by decide +kernel
