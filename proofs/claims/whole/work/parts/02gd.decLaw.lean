theorem d_Law_law_305 : decode b_Law_law 305 = .ok (.goto 4, 3) := by decide +kernel
theorem d_Law_law_308 : decode b_Law_law 308 = .ok (.iconst 0, 1) := by decide +kernel
theorem d_Law_law_309 : decode b_Law_law 309 = .ok (.invokevirtual 71, 3) := by decide +kernel
theorem d_Law_law_312 : decode b_Law_law 312 = .ok (.istore 6, 2) := by decide +kernel
theorem d_Law_law_314 : decode b_Law_law 314 = .ok (.aload_n 2, 1) := by decide +kernel
theorem d_Law_law_315 : decode b_Law_law 315 = .ok (.invokevirtual 65, 3) := by decide +kernel
theorem d_Law_law_318 : decode b_Law_law 318 = .ok (.iload 5, 2) := by decide +kernel
theorem d_Law_law_320 : decode b_Law_law 320 = .ok (.if_icmp .eq 5, 3) := by decide +kernel
theorem d_Law_law_323 : decode b_Law_law 323 = .ok (.iconst 0, 1) := by decide +kernel
theorem d_Law_law_324 : decode b_Law_law 324 = .ok (.ireturn, 1) := by decide +kernel
theorem d_Law_law_325 : decode b_Law_law 325 = .ok (.iload 5, 2) := by decide +kernel
theorem d_Law_law_327 : decode b_Law_law 327 = .ok (.ifCond .ne 22, 3) := by decide +kernel
theorem d_Law_law_330 : decode b_Law_law 330 = .ok (.aload_n 3, 1) := by decide +kernel
theorem d_Law_law_331 : decode b_Law_law 331 = .ok (.iconst 0, 1) := by decide +kernel
theorem d_Law_law_332 : decode b_Law_law 332 = .ok (.laload, 1) := by decide +kernel
theorem d_Law_law_333 : decode b_Law_law 333 = .ok (.iload 6, 2) := by decide +kernel
theorem d_Law_law_335 : decode b_Law_law 335 = .ok (.ifCond .eq 7, 3) := by decide +kernel
theorem d_Law_law_338 : decode b_Law_law 338 = .ok (.lconst 1, 1) := by decide +kernel
theorem d_Law_law_339 : decode b_Law_law 339 = .ok (.goto 4, 3) := by decide +kernel
theorem d_Law_law_342 : decode b_Law_law 342 = .ok (.lconst 0, 1) := by decide +kernel
theorem d_Law_law_343 : decode b_Law_law 343 = .ok (.lcmp, 1) := by decide +kernel
theorem d_Law_law_344 : decode b_Law_law 344 = .ok (.ifCond .eq 5, 3) := by decide +kernel
theorem d_Law_law_347 : decode b_Law_law 347 = .ok (.iconst 0, 1) := by decide +kernel
theorem d_Law_law_348 : decode b_Law_law 348 = .ok (.ireturn, 1) := by decide +kernel
theorem d_Law_law_349 : decode b_Law_law 349 = .ok (.goto 765, 3) := by decide +kernel
theorem d_Law_law_352 : decode b_Law_law 352 = .ok (.aload_n 1, 1) := by decide +kernel
theorem d_Law_law_353 : decode b_Law_law 353 = .ok (.aload_n 0, 1) := by decide +kernel
theorem d_Law_law_354 : decode b_Law_law 354 = .ok (.iload 4, 2) := by decide +kernel
theorem d_Law_law_356 : decode b_Law_law 356 = .ok (.iconst 1, 1) := by decide +kernel
theorem d_Law_law_357 : decode b_Law_law 357 = .ok (.iadd, 1) := by decide +kernel
theorem d_Law_law_358 : decode b_Law_law 358 = .ok (.iaload, 1) := by decide +kernel
theorem d_Law_law_359 : decode b_Law_law 359 = .ok (.aload_n 0, 1) := by decide +kernel
theorem d_Law_law_360 : decode b_Law_law 360 = .ok (.iload 4, 2) := by decide +kernel
theorem d_Law_law_362 : decode b_Law_law 362 = .ok (.iconst 2, 1) := by decide +kernel
theorem d_Law_law_363 : decode b_Law_law 363 = .ok (.iadd, 1) := by decide +kernel
theorem d_Law_law_364 : decode b_Law_law 364 = .ok (.iaload, 1) := by decide +kernel
theorem d_Law_law_365 : decode b_Law_law 365 = .ok (.aload_n 0, 1) := by decide +kernel
theorem d_Law_law_366 : decode b_Law_law 366 = .ok (.iload 4, 2) := by decide +kernel
theorem d_Law_law_368 : decode b_Law_law 368 = .ok (.iconst 3, 1) := by decide +kernel
theorem d_Law_law_369 : decode b_Law_law 369 = .ok (.iadd, 1) := by decide +kernel
theorem d_Law_law_370 : decode b_Law_law 370 = .ok (.iaload, 1) := by decide +kernel
theorem d_Law_law_371 : decode b_Law_law 371 = .ok (.aload_n 0, 1) := by decide +kernel
theorem d_Law_law_372 : decode b_Law_law 372 = .ok (.iload 4, 2) := by decide +kernel
theorem d_Law_law_374 : decode b_Law_law 374 = .ok (.iconst 4, 1) := by decide +kernel
theorem d_Law_law_375 : decode b_Law_law 375 = .ok (.iadd, 1) := by decide +kernel
theorem d_Law_law_376 : decode b_Law_law 376 = .ok (.iaload, 1) := by decide +kernel
theorem d_Law_law_377 : decode b_Law_law 377 = .ok (.aload_n 0, 1) := by decide +kernel
theorem d_Law_law_378 : decode b_Law_law 378 = .ok (.iload 4, 2) := by decide +kernel
theorem d_Law_law_380 : decode b_Law_law 380 = .ok (.iconst 5, 1) := by decide +kernel
theorem d_Law_law_381 : decode b_Law_law 381 = .ok (.iadd, 1) := by decide +kernel
theorem d_Law_law_382 : decode b_Law_law 382 = .ok (.iaload, 1) := by decide +kernel
theorem d_Law_law_383 : decode b_Law_law 383 = .ok (.i2l, 1) := by decide +kernel
theorem d_Law_law_384 : decode b_Law_law 384 = .ok (.bipush 32, 2) := by decide +kernel
theorem d_Law_law_386 : decode b_Law_law 386 = .ok (.lshl, 1) := by decide +kernel
theorem d_Law_law_387 : decode b_Law_law 387 = .ok (.aload_n 0, 1) := by decide +kernel
theorem d_Law_law_388 : decode b_Law_law 388 = .ok (.iload 4, 2) := by decide +kernel
theorem d_Law_law_390 : decode b_Law_law 390 = .ok (.bipush 6, 2) := by decide +kernel
theorem d_Law_law_392 : decode b_Law_law 392 = .ok (.iadd, 1) := by decide +kernel
theorem d_Law_law_393 : decode b_Law_law 393 = .ok (.iaload, 1) := by decide +kernel
theorem d_Law_law_394 : decode b_Law_law 394 = .ok (.i2l, 1) := by decide +kernel
theorem d_Law_law_395 : decode b_Law_law 395 = .ok (.ldc2_w 52, 3) := by decide +kernel
theorem d_Law_law_398 : decode b_Law_law 398 = .ok (.land, 1) := by decide +kernel
theorem d_Law_law_399 : decode b_Law_law 399 = .ok (.lor, 1) := by decide +kernel
theorem d_Law_law_400 : decode b_Law_law 400 = .ok (.aload_n 3, 1) := by decide +kernel
theorem d_Law_law_401 : decode b_Law_law 401 = .ok (.invokestatic 72, 3) := by decide +kernel
theorem d_Law_law_404 : decode b_Law_law 404 = .ok (.istore 5, 2) := by decide +kernel
theorem d_Law_law_406 : decode b_Law_law 406 = .ok (.aload_n 2, 1) := by decide +kernel
theorem d_Law_law_407 : decode b_Law_law 407 = .ok (.aload_n 0, 1) := by decide +kernel
theorem d_Law_law_408 : decode b_Law_law 408 = .ok (.iload 4, 2) := by decide +kernel
theorem d_Law_law_410 : decode b_Law_law 410 = .ok (.iconst 1, 1) := by decide +kernel
theorem d_Law_law_411 : decode b_Law_law 411 = .ok (.iadd, 1) := by decide +kernel
theorem d_Law_law_412 : decode b_Law_law 412 = .ok (.iaload, 1) := by decide +kernel
theorem d_Law_law_413 : decode b_Law_law 413 = .ok (.aload_n 0, 1) := by decide +kernel
theorem d_Law_law_414 : decode b_Law_law 414 = .ok (.iload 4, 2) := by decide +kernel
theorem d_Law_law_416 : decode b_Law_law 416 = .ok (.iconst 2, 1) := by decide +kernel
theorem d_Law_law_417 : decode b_Law_law 417 = .ok (.iadd, 1) := by decide +kernel
theorem d_Law_law_418 : decode b_Law_law 418 = .ok (.iaload, 1) := by decide +kernel
theorem d_Law_law_419 : decode b_Law_law 419 = .ok (.aload_n 0, 1) := by decide +kernel
theorem d_Law_law_420 : decode b_Law_law 420 = .ok (.iload 4, 2) := by decide +kernel
theorem d_Law_law_422 : decode b_Law_law 422 = .ok (.iconst 3, 1) := by decide +kernel
theorem d_Law_law_423 : decode b_Law_law 423 = .ok (.iadd, 1) := by decide +kernel
theorem d_Law_law_424 : decode b_Law_law 424 = .ok (.iaload, 1) := by decide +kernel
theorem d_Law_law_425 : decode b_Law_law 425 = .ok (.aload_n 0, 1) := by decide +kernel
theorem d_Law_law_426 : decode b_Law_law 426 = .ok (.iload 4, 2) := by decide +kernel
theorem d_Law_law_428 : decode b_Law_law 428 = .ok (.iconst 4, 1) := by decide +kernel
theorem d_Law_law_429 : decode b_Law_law 429 = .ok (.iadd, 1) := by decide +kernel
theorem d_Law_law_430 : decode b_Law_law 430 = .ok (.iaload, 1) := by decide +kernel
theorem d_Law_law_431 : decode b_Law_law 431 = .ok (.aload_n 0, 1) := by decide +kernel
theorem d_Law_law_432 : decode b_Law_law 432 = .ok (.iload 4, 2) := by decide +kernel
theorem d_Law_law_434 : decode b_Law_law 434 = .ok (.iconst 5, 1) := by decide +kernel
theorem d_Law_law_435 : decode b_Law_law 435 = .ok (.iadd, 1) := by decide +kernel
theorem d_Law_law_436 : decode b_Law_law 436 = .ok (.iaload, 1) := by decide +kernel
theorem d_Law_law_437 : decode b_Law_law 437 = .ok (.i2l, 1) := by decide +kernel
theorem d_Law_law_438 : decode b_Law_law 438 = .ok (.bipush 32, 2) := by decide +kernel
theorem d_Law_law_440 : decode b_Law_law 440 = .ok (.lshl, 1) := by decide +kernel
theorem d_Law_law_441 : decode b_Law_law 441 = .ok (.aload_n 0, 1) := by decide +kernel
theorem d_Law_law_442 : decode b_Law_law 442 = .ok (.iload 4, 2) := by decide +kernel
theorem d_Law_law_444 : decode b_Law_law 444 = .ok (.bipush 6, 2) := by decide +kernel
theorem d_Law_law_446 : decode b_Law_law 446 = .ok (.iadd, 1) := by decide +kernel
theorem d_Law_law_447 : decode b_Law_law 447 = .ok (.iaload, 1) := by decide +kernel
