theorem d_law_276 : decode code 276 = .ok (.iaload, 1) := by decide +kernel
theorem d_law_277 : decode code 277 = .ok (.i2l, 1) := by decide +kernel
theorem d_law_278 : decode code 278 = .ok (.ldc2_w 54, 3) := by decide +kernel
theorem d_law_281 : decode code 281 = .ok (.land, 1) := by decide +kernel
theorem d_law_282 : decode code 282 = .ok (.lor, 1) := by decide +kernel
theorem d_law_283 : decode code 283 = .ok (.aload_n 3, 1) := by decide +kernel
theorem d_law_284 : decode code 284 = .ok (.invokestatic 70, 3) := by decide +kernel
theorem d_law_287 : decode code 287 = .ok (.istore 5, 2) := by decide +kernel
theorem d_law_289 : decode code 289 = .ok (.aload_n 2, 1) := by decide +kernel
theorem d_law_290 : decode code 290 = .ok (.aload_n 0, 1) := by decide +kernel
theorem d_law_291 : decode code 291 = .ok (.iload 4, 2) := by decide +kernel
theorem d_law_293 : decode code 293 = .ok (.iconst 1, 1) := by decide +kernel
theorem d_law_294 : decode code 294 = .ok (.iadd, 1) := by decide +kernel
theorem d_law_295 : decode code 295 = .ok (.iaload, 1) := by decide +kernel
theorem d_law_296 : decode code 296 = .ok (.aload_n 0, 1) := by decide +kernel
theorem d_law_297 : decode code 297 = .ok (.iload 4, 2) := by decide +kernel
theorem d_law_299 : decode code 299 = .ok (.iconst 2, 1) := by decide +kernel
theorem d_law_300 : decode code 300 = .ok (.iadd, 1) := by decide +kernel
theorem d_law_301 : decode code 301 = .ok (.iaload, 1) := by decide +kernel
theorem d_law_302 : decode code 302 = .ok (.i2l, 1) := by decide +kernel
theorem d_law_303 : decode code 303 = .ok (.bipush 32, 2) := by decide +kernel
theorem d_law_305 : decode code 305 = .ok (.lshl, 1) := by decide +kernel
theorem d_law_306 : decode code 306 = .ok (.aload_n 0, 1) := by decide +kernel
theorem d_law_307 : decode code 307 = .ok (.iload 4, 2) := by decide +kernel
theorem d_law_309 : decode code 309 = .ok (.iconst 3, 1) := by decide +kernel
theorem d_law_310 : decode code 310 = .ok (.iadd, 1) := by decide +kernel
theorem d_law_311 : decode code 311 = .ok (.iaload, 1) := by decide +kernel
theorem d_law_312 : decode code 312 = .ok (.i2l, 1) := by decide +kernel
theorem d_law_313 : decode code 313 = .ok (.ldc2_w 54, 3) := by decide +kernel
theorem d_law_316 : decode code 316 = .ok (.land, 1) := by decide +kernel
theorem d_law_317 : decode code 317 = .ok (.lor, 1) := by decide +kernel
theorem d_law_318 : decode code 318 = .ok (.invokevirtual 72, 3) := by decide +kernel
theorem d_law_321 : decode code 321 = .ok (.lstore 6, 2) := by decide +kernel
theorem d_law_323 : decode code 323 = .ok (.aload_n 2, 1) := by decide +kernel
theorem d_law_324 : decode code 324 = .ok (.invokevirtual 62, 3) := by decide +kernel
theorem d_law_327 : decode code 327 = .ok (.iload 5, 2) := by decide +kernel
theorem d_law_329 : decode code 329 = .ok (.if_icmp .eq 5, 3) := by decide +kernel
theorem d_law_332 : decode code 332 = .ok (.iconst 0, 1) := by decide +kernel
theorem d_law_333 : decode code 333 = .ok (.ireturn, 1) := by decide +kernel
theorem d_law_334 : decode code 334 = .ok (.iload 5, 2) := by decide +kernel
theorem d_law_336 : decode code 336 = .ok (.ifCond .ne 14, 3) := by decide +kernel
theorem d_law_339 : decode code 339 = .ok (.aload_n 3, 1) := by decide +kernel
theorem d_law_340 : decode code 340 = .ok (.iconst 0, 1) := by decide +kernel
theorem d_law_341 : decode code 341 = .ok (.laload, 1) := by decide +kernel
theorem d_law_342 : decode code 342 = .ok (.lload 6, 2) := by decide +kernel
theorem d_law_344 : decode code 344 = .ok (.lcmp, 1) := by decide +kernel
theorem d_law_345 : decode code 345 = .ok (.ifCond .eq 5, 3) := by decide +kernel
theorem d_law_348 : decode code 348 = .ok (.iconst 0, 1) := by decide +kernel
theorem d_law_349 : decode code 349 = .ok (.ireturn, 1) := by decide +kernel
theorem d_law_350 : decode code 350 = .ok (.goto 480, 3) := by decide +kernel
theorem d_law_353 : decode code 353 = .ok (.aload_n 1, 1) := by decide +kernel
theorem d_law_354 : decode code 354 = .ok (.aload_n 0, 1) := by decide +kernel
theorem d_law_355 : decode code 355 = .ok (.iload 4, 2) := by decide +kernel
theorem d_law_357 : decode code 357 = .ok (.iconst 1, 1) := by decide +kernel
theorem d_law_358 : decode code 358 = .ok (.iadd, 1) := by decide +kernel
theorem d_law_359 : decode code 359 = .ok (.iaload, 1) := by decide +kernel
theorem d_law_360 : decode code 360 = .ok (.aload_n 3, 1) := by decide +kernel
theorem d_law_361 : decode code 361 = .ok (.invokestatic 73, 3) := by decide +kernel
theorem d_law_364 : decode code 364 = .ok (.istore 5, 2) := by decide +kernel
theorem d_law_366 : decode code 366 = .ok (.aload_n 2, 1) := by decide +kernel
theorem d_law_367 : decode code 367 = .ok (.aload_n 0, 1) := by decide +kernel
theorem d_law_368 : decode code 368 = .ok (.iload 4, 2) := by decide +kernel
theorem d_law_370 : decode code 370 = .ok (.iconst 1, 1) := by decide +kernel
theorem d_law_371 : decode code 371 = .ok (.iadd, 1) := by decide +kernel
theorem d_law_372 : decode code 372 = .ok (.iaload, 1) := by decide +kernel
theorem d_law_373 : decode code 373 = .ok (.invokevirtual 75, 3) := by decide +kernel
theorem d_law_376 : decode code 376 = .ok (.lstore 6, 2) := by decide +kernel
theorem d_law_378 : decode code 378 = .ok (.aload_n 2, 1) := by decide +kernel
theorem d_law_379 : decode code 379 = .ok (.invokevirtual 62, 3) := by decide +kernel
theorem d_law_382 : decode code 382 = .ok (.iload 5, 2) := by decide +kernel
theorem d_law_384 : decode code 384 = .ok (.if_icmp .eq 5, 3) := by decide +kernel
theorem d_law_387 : decode code 387 = .ok (.iconst 0, 1) := by decide +kernel
theorem d_law_388 : decode code 388 = .ok (.ireturn, 1) := by decide +kernel
