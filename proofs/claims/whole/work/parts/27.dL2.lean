theorem d_L_law_294 : decode code 294 = .ok (.aload_n 0, 1) := by decide +kernel
theorem d_L_law_295 : decode code 295 = .ok (.iload_n 3, 1) := by decide +kernel
theorem d_L_law_296 : decode code 296 = .ok (.iconst 2, 1) := by decide +kernel
theorem d_L_law_297 : decode code 297 = .ok (.iadd, 1) := by decide +kernel
theorem d_L_law_298 : decode code 298 = .ok (.iaload, 1) := by decide +kernel
theorem d_L_law_299 : decode code 299 = .ok (.i2l, 1) := by decide +kernel
theorem d_L_law_300 : decode code 300 = .ok (.ldc2_w 23, 3) := by decide +kernel
theorem d_L_law_303 : decode code 303 = .ok (.land, 1) := by decide +kernel
theorem d_L_law_304 : decode code 304 = .ok (.lor, 1) := by decide +kernel
theorem d_L_law_305 : decode code 305 = .ok (.invokevirtual 34, 3) := by decide +kernel
theorem d_L_law_308 : decode code 308 = .ok (.lcmp, 1) := by decide +kernel
theorem d_L_law_309 : decode code 309 = .ok (.ifCond .eq 596, 3) := by decide +kernel
theorem d_L_law_312 : decode code 312 = .ok (.iconst 0, 1) := by decide +kernel
theorem d_L_law_313 : decode code 313 = .ok (.ireturn, 1) := by decide +kernel
theorem d_L_law_314 : decode code 314 = .ok (.aload_n 1, 1) := by decide +kernel
theorem d_L_law_315 : decode code 315 = .ok (.aload_n 0, 1) := by decide +kernel
theorem d_L_law_316 : decode code 316 = .ok (.iload_n 3, 1) := by decide +kernel
theorem d_L_law_317 : decode code 317 = .ok (.iconst 1, 1) := by decide +kernel
theorem d_L_law_318 : decode code 318 = .ok (.iadd, 1) := by decide +kernel
theorem d_L_law_319 : decode code 319 = .ok (.iaload, 1) := by decide +kernel
theorem d_L_law_320 : decode code 320 = .ok (.i2l, 1) := by decide +kernel
theorem d_L_law_321 : decode code 321 = .ok (.bipush 32, 2) := by decide +kernel
theorem d_L_law_323 : decode code 323 = .ok (.lshl, 1) := by decide +kernel
theorem d_L_law_324 : decode code 324 = .ok (.aload_n 0, 1) := by decide +kernel
theorem d_L_law_325 : decode code 325 = .ok (.iload_n 3, 1) := by decide +kernel
theorem d_L_law_326 : decode code 326 = .ok (.iconst 2, 1) := by decide +kernel
theorem d_L_law_327 : decode code 327 = .ok (.iadd, 1) := by decide +kernel
theorem d_L_law_328 : decode code 328 = .ok (.iaload, 1) := by decide +kernel
theorem d_L_law_329 : decode code 329 = .ok (.i2l, 1) := by decide +kernel
theorem d_L_law_330 : decode code 330 = .ok (.ldc2_w 23, 3) := by decide +kernel
theorem d_L_law_333 : decode code 333 = .ok (.land, 1) := by decide +kernel
theorem d_L_law_334 : decode code 334 = .ok (.lor, 1) := by decide +kernel
theorem d_L_law_335 : decode code 335 = .ok (.invokevirtual 35, 3) := by decide +kernel
theorem d_L_law_338 : decode code 338 = .ok (.aload_n 2, 1) := by decide +kernel
theorem d_L_law_339 : decode code 339 = .ok (.aload_n 0, 1) := by decide +kernel
theorem d_L_law_340 : decode code 340 = .ok (.iload_n 3, 1) := by decide +kernel
theorem d_L_law_341 : decode code 341 = .ok (.iconst 1, 1) := by decide +kernel
theorem d_L_law_342 : decode code 342 = .ok (.iadd, 1) := by decide +kernel
theorem d_L_law_343 : decode code 343 = .ok (.iaload, 1) := by decide +kernel
theorem d_L_law_344 : decode code 344 = .ok (.i2l, 1) := by decide +kernel
theorem d_L_law_345 : decode code 345 = .ok (.bipush 32, 2) := by decide +kernel
theorem d_L_law_347 : decode code 347 = .ok (.lshl, 1) := by decide +kernel
theorem d_L_law_348 : decode code 348 = .ok (.aload_n 0, 1) := by decide +kernel
theorem d_L_law_349 : decode code 349 = .ok (.iload_n 3, 1) := by decide +kernel
theorem d_L_law_350 : decode code 350 = .ok (.iconst 2, 1) := by decide +kernel
theorem d_L_law_351 : decode code 351 = .ok (.iadd, 1) := by decide +kernel
theorem d_L_law_352 : decode code 352 = .ok (.iaload, 1) := by decide +kernel
theorem d_L_law_353 : decode code 353 = .ok (.i2l, 1) := by decide +kernel
theorem d_L_law_354 : decode code 354 = .ok (.ldc2_w 23, 3) := by decide +kernel
theorem d_L_law_357 : decode code 357 = .ok (.land, 1) := by decide +kernel
theorem d_L_law_358 : decode code 358 = .ok (.lor, 1) := by decide +kernel
theorem d_L_law_359 : decode code 359 = .ok (.invokevirtual 38, 3) := by decide +kernel
theorem d_L_law_362 : decode code 362 = .ok (.lcmp, 1) := by decide +kernel
theorem d_L_law_363 : decode code 363 = .ok (.ifCond .eq 542, 3) := by decide +kernel
theorem d_L_law_366 : decode code 366 = .ok (.iconst 0, 1) := by decide +kernel
theorem d_L_law_367 : decode code 367 = .ok (.ireturn, 1) := by decide +kernel
theorem d_L_law_368 : decode code 368 = .ok (.aload_n 1, 1) := by decide +kernel
theorem d_L_law_369 : decode code 369 = .ok (.aload_n 0, 1) := by decide +kernel
theorem d_L_law_370 : decode code 370 = .ok (.iload_n 3, 1) := by decide +kernel
theorem d_L_law_371 : decode code 371 = .ok (.iconst 1, 1) := by decide +kernel
theorem d_L_law_372 : decode code 372 = .ok (.iadd, 1) := by decide +kernel
theorem d_L_law_373 : decode code 373 = .ok (.iaload, 1) := by decide +kernel
theorem d_L_law_374 : decode code 374 = .ok (.i2l, 1) := by decide +kernel
theorem d_L_law_375 : decode code 375 = .ok (.bipush 32, 2) := by decide +kernel
theorem d_L_law_377 : decode code 377 = .ok (.lshl, 1) := by decide +kernel
theorem d_L_law_378 : decode code 378 = .ok (.aload_n 0, 1) := by decide +kernel
theorem d_L_law_379 : decode code 379 = .ok (.iload_n 3, 1) := by decide +kernel
theorem d_L_law_380 : decode code 380 = .ok (.iconst 2, 1) := by decide +kernel
theorem d_L_law_381 : decode code 381 = .ok (.iadd, 1) := by decide +kernel
theorem d_L_law_382 : decode code 382 = .ok (.iaload, 1) := by decide +kernel
theorem d_L_law_383 : decode code 383 = .ok (.i2l, 1) := by decide +kernel
theorem d_L_law_384 : decode code 384 = .ok (.ldc2_w 23, 3) := by decide +kernel
theorem d_L_law_387 : decode code 387 = .ok (.land, 1) := by decide +kernel
theorem d_L_law_388 : decode code 388 = .ok (.lor, 1) := by decide +kernel
theorem d_L_law_389 : decode code 389 = .ok (.aload_n 0, 1) := by decide +kernel
theorem d_L_law_390 : decode code 390 = .ok (.iload_n 3, 1) := by decide +kernel
theorem d_L_law_391 : decode code 391 = .ok (.iconst 3, 1) := by decide +kernel
theorem d_L_law_392 : decode code 392 = .ok (.iadd, 1) := by decide +kernel
theorem d_L_law_393 : decode code 393 = .ok (.iaload, 1) := by decide +kernel
theorem d_L_law_394 : decode code 394 = .ok (.i2l, 1) := by decide +kernel
