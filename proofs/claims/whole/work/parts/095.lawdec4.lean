theorem d_law_304 : decode code 304 = .ok (.iadd, 1) := by decide +kernel
theorem d_law_305 : decode code 305 = .ok (.iaload, 1) := by decide +kernel
theorem d_law_306 : decode code 306 = .ok (.i2l, 1) := by decide +kernel
theorem d_law_307 : decode code 307 = .ok (.bipush 32, 2) := by decide +kernel
theorem d_law_309 : decode code 309 = .ok (.lshl, 1) := by decide +kernel
theorem d_law_310 : decode code 310 = .ok (.aload_n 0, 1) := by decide +kernel
theorem d_law_311 : decode code 311 = .ok (.iload 4, 2) := by decide +kernel
theorem d_law_313 : decode code 313 = .ok (.iconst 3, 1) := by decide +kernel
theorem d_law_314 : decode code 314 = .ok (.iadd, 1) := by decide +kernel
theorem d_law_315 : decode code 315 = .ok (.iaload, 1) := by decide +kernel
theorem d_law_316 : decode code 316 = .ok (.i2l, 1) := by decide +kernel
theorem d_law_317 : decode code 317 = .ok (.ldc2_w 27, 3) := by decide +kernel
theorem d_law_320 : decode code 320 = .ok (.land, 1) := by decide +kernel
theorem d_law_321 : decode code 321 = .ok (.lor, 1) := by decide +kernel
theorem d_law_322 : decode code 322 = .ok (.aload_n 0, 1) := by decide +kernel
theorem d_law_323 : decode code 323 = .ok (.iload 4, 2) := by decide +kernel
theorem d_law_325 : decode code 325 = .ok (.iconst 4, 1) := by decide +kernel
theorem d_law_326 : decode code 326 = .ok (.iadd, 1) := by decide +kernel
theorem d_law_327 : decode code 327 = .ok (.iaload, 1) := by decide +kernel
theorem d_law_328 : decode code 328 = .ok (.i2l, 1) := by decide +kernel
theorem d_law_329 : decode code 329 = .ok (.bipush 32, 2) := by decide +kernel
theorem d_law_331 : decode code 331 = .ok (.lshl, 1) := by decide +kernel
theorem d_law_332 : decode code 332 = .ok (.aload_n 0, 1) := by decide +kernel
theorem d_law_333 : decode code 333 = .ok (.iload 4, 2) := by decide +kernel
theorem d_law_335 : decode code 335 = .ok (.iconst 5, 1) := by decide +kernel
theorem d_law_336 : decode code 336 = .ok (.iadd, 1) := by decide +kernel
theorem d_law_337 : decode code 337 = .ok (.iaload, 1) := by decide +kernel
theorem d_law_338 : decode code 338 = .ok (.i2l, 1) := by decide +kernel
theorem d_law_339 : decode code 339 = .ok (.ldc2_w 27, 3) := by decide +kernel
theorem d_law_342 : decode code 342 = .ok (.land, 1) := by decide +kernel
theorem d_law_343 : decode code 343 = .ok (.lor, 1) := by decide +kernel
theorem d_law_344 : decode code 344 = .ok (.invokevirtual 41, 3) := by decide +kernel
theorem d_law_347 : decode code 347 = .ok (.istore 6, 2) := by decide +kernel
theorem d_law_349 : decode code 349 = .ok (.aload_n 2, 1) := by decide +kernel
theorem d_law_350 : decode code 350 = .ok (.invokevirtual 35, 3) := by decide +kernel
theorem d_law_353 : decode code 353 = .ok (.iload 5, 2) := by decide +kernel
theorem d_law_355 : decode code 355 = .ok (.if_icmp .eq 5, 3) := by decide +kernel
theorem d_law_358 : decode code 358 = .ok (.iconst 0, 1) := by decide +kernel
theorem d_law_359 : decode code 359 = .ok (.ireturn, 1) := by decide +kernel
theorem d_law_360 : decode code 360 = .ok (.iload 5, 2) := by decide +kernel
theorem d_law_362 : decode code 362 = .ok (.ifCond .ne 22, 3) := by decide +kernel
theorem d_law_365 : decode code 365 = .ok (.aload_n 3, 1) := by decide +kernel
theorem d_law_366 : decode code 366 = .ok (.iconst 0, 1) := by decide +kernel
theorem d_law_367 : decode code 367 = .ok (.laload, 1) := by decide +kernel
theorem d_law_368 : decode code 368 = .ok (.iload 6, 2) := by decide +kernel
theorem d_law_370 : decode code 370 = .ok (.ifCond .eq 7, 3) := by decide +kernel
theorem d_law_373 : decode code 373 = .ok (.lconst 1, 1) := by decide +kernel
theorem d_law_374 : decode code 374 = .ok (.goto 4, 3) := by decide +kernel
theorem d_law_377 : decode code 377 = .ok (.lconst 0, 1) := by decide +kernel
theorem d_law_378 : decode code 378 = .ok (.lcmp, 1) := by decide +kernel
theorem d_law_379 : decode code 379 = .ok (.ifCond .eq 5, 3) := by decide +kernel
theorem d_law_382 : decode code 382 = .ok (.iconst 0, 1) := by decide +kernel
theorem d_law_383 : decode code 383 = .ok (.ireturn, 1) := by decide +kernel
theorem d_law_384 : decode code 384 = .ok (.goto 382, 3) := by decide +kernel
theorem d_law_387 : decode code 387 = .ok (.aload_n 1, 1) := by decide +kernel
theorem d_law_388 : decode code 388 = .ok (.aload_n 0, 1) := by decide +kernel
theorem d_law_389 : decode code 389 = .ok (.iload 4, 2) := by decide +kernel
theorem d_law_391 : decode code 391 = .ok (.iconst 1, 1) := by decide +kernel
theorem d_law_392 : decode code 392 = .ok (.iadd, 1) := by decide +kernel
theorem d_law_393 : decode code 393 = .ok (.iaload, 1) := by decide +kernel
