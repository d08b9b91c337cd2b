theorem d_lw_law_315 : decode b_lw_law 315 = .ok (.aload_n 0, 1) := by decide +kernel
theorem d_lw_law_316 : decode b_lw_law 316 = .ok (.iload 4, 2) := by decide +kernel
theorem d_lw_law_318 : decode b_lw_law 318 = .ok (.iconst 3, 1) := by decide +kernel
theorem d_lw_law_319 : decode b_lw_law 319 = .ok (.iadd, 1) := by decide +kernel
theorem d_lw_law_320 : decode b_lw_law 320 = .ok (.iaload, 1) := by decide +kernel
theorem d_lw_law_321 : decode b_lw_law 321 = .ok (.aload_n 0, 1) := by decide +kernel
theorem d_lw_law_322 : decode b_lw_law 322 = .ok (.iload 4, 2) := by decide +kernel
theorem d_lw_law_324 : decode b_lw_law 324 = .ok (.iconst 4, 1) := by decide +kernel
theorem d_lw_law_325 : decode b_lw_law 325 = .ok (.iadd, 1) := by decide +kernel
theorem d_lw_law_326 : decode b_lw_law 326 = .ok (.iaload, 1) := by decide +kernel
theorem d_lw_law_327 : decode b_lw_law 327 = .ok (.aload_n 0, 1) := by decide +kernel
theorem d_lw_law_328 : decode b_lw_law 328 = .ok (.iload 4, 2) := by decide +kernel
theorem d_lw_law_330 : decode b_lw_law 330 = .ok (.iconst 5, 1) := by decide +kernel
theorem d_lw_law_331 : decode b_lw_law 331 = .ok (.iadd, 1) := by decide +kernel
theorem d_lw_law_332 : decode b_lw_law 332 = .ok (.iaload, 1) := by decide +kernel
theorem d_lw_law_333 : decode b_lw_law 333 = .ok (.invokevirtual 57, 3) := by decide +kernel
theorem d_lw_law_336 : decode b_lw_law 336 = .ok (.if_icmp .eq 247, 3) := by decide +kernel
theorem d_lw_law_339 : decode b_lw_law 339 = .ok (.iconst 0, 1) := by decide +kernel
theorem d_lw_law_340 : decode b_lw_law 340 = .ok (.ireturn, 1) := by decide +kernel
theorem d_lw_law_341 : decode b_lw_law 341 = .ok (.aload_n 1, 1) := by decide +kernel
theorem d_lw_law_342 : decode b_lw_law 342 = .ok (.aload_n 0, 1) := by decide +kernel
theorem d_lw_law_343 : decode b_lw_law 343 = .ok (.iload 4, 2) := by decide +kernel
theorem d_lw_law_345 : decode b_lw_law 345 = .ok (.iconst 1, 1) := by decide +kernel
theorem d_lw_law_346 : decode b_lw_law 346 = .ok (.iadd, 1) := by decide +kernel
theorem d_lw_law_347 : decode b_lw_law 347 = .ok (.iaload, 1) := by decide +kernel
theorem d_lw_law_348 : decode b_lw_law 348 = .ok (.invokevirtual 58, 3) := by decide +kernel
theorem d_lw_law_351 : decode b_lw_law 351 = .ok (.aload_n 2, 1) := by decide +kernel
theorem d_lw_law_352 : decode b_lw_law 352 = .ok (.aload_n 0, 1) := by decide +kernel
theorem d_lw_law_353 : decode b_lw_law 353 = .ok (.iload 4, 2) := by decide +kernel
theorem d_lw_law_355 : decode b_lw_law 355 = .ok (.iconst 1, 1) := by decide +kernel
theorem d_lw_law_356 : decode b_lw_law 356 = .ok (.iadd, 1) := by decide +kernel
theorem d_lw_law_357 : decode b_lw_law 357 = .ok (.iaload, 1) := by decide +kernel
theorem d_lw_law_358 : decode b_lw_law 358 = .ok (.invokevirtual 61, 3) := by decide +kernel
theorem d_lw_law_361 : decode b_lw_law 361 = .ok (.if_icmp .eq 222, 3) := by decide +kernel
theorem d_lw_law_364 : decode b_lw_law 364 = .ok (.iconst 0, 1) := by decide +kernel
theorem d_lw_law_365 : decode b_lw_law 365 = .ok (.ireturn, 1) := by decide +kernel
theorem d_lw_law_366 : decode b_lw_law 366 = .ok (.aload_n 1, 1) := by decide +kernel
theorem d_lw_law_367 : decode b_lw_law 367 = .ok (.aload_n 0, 1) := by decide +kernel
theorem d_lw_law_368 : decode b_lw_law 368 = .ok (.iload 4, 2) := by decide +kernel
theorem d_lw_law_370 : decode b_lw_law 370 = .ok (.iconst 1, 1) := by decide +kernel
theorem d_lw_law_371 : decode b_lw_law 371 = .ok (.iadd, 1) := by decide +kernel
theorem d_lw_law_372 : decode b_lw_law 372 = .ok (.iaload, 1) := by decide +kernel
theorem d_lw_law_373 : decode b_lw_law 373 = .ok (.aload_n 0, 1) := by decide +kernel
theorem d_lw_law_374 : decode b_lw_law 374 = .ok (.iload 4, 2) := by decide +kernel
theorem d_lw_law_376 : decode b_lw_law 376 = .ok (.iconst 2, 1) := by decide +kernel
theorem d_lw_law_377 : decode b_lw_law 377 = .ok (.iadd, 1) := by decide +kernel
theorem d_lw_law_378 : decode b_lw_law 378 = .ok (.iaload, 1) := by decide +kernel
theorem d_lw_law_379 : decode b_lw_law 379 = .ok (.aload_n 3, 1) := by decide +kernel
theorem d_lw_law_380 : decode b_lw_law 380 = .ok (.invokestatic 62, 3) := by decide +kernel
theorem d_lw_law_383 : decode b_lw_law 383 = .ok (.istore 5, 2) := by decide +kernel
theorem d_lw_law_385 : decode b_lw_law 385 = .ok (.aload_n 2, 1) := by decide +kernel
theorem d_lw_law_386 : decode b_lw_law 386 = .ok (.aload_n 0, 1) := by decide +kernel
theorem d_lw_law_387 : decode b_lw_law 387 = .ok (.iload 4, 2) := by decide +kernel
theorem d_lw_law_389 : decode b_lw_law 389 = .ok (.iconst 1, 1) := by decide +kernel
theorem d_lw_law_390 : decode b_lw_law 390 = .ok (.iadd, 1) := by decide +kernel
theorem d_lw_law_391 : decode b_lw_law 391 = .ok (.iaload, 1) := by decide +kernel
theorem d_lw_law_392 : decode b_lw_law 392 = .ok (.aload_n 0, 1) := by decide +kernel
theorem d_lw_law_393 : decode b_lw_law 393 = .ok (.iload 4, 2) := by decide +kernel
theorem d_lw_law_395 : decode b_lw_law 395 = .ok (.iconst 2, 1) := by decide +kernel
theorem d_lw_law_396 : decode b_lw_law 396 = .ok (.iadd, 1) := by decide +kernel
theorem d_lw_law_397 : decode b_lw_law 397 = .ok (.iaload, 1) := by decide +kernel
theorem d_lw_law_398 : decode b_lw_law 398 = .ok (.invokevirtual 67, 3) := by decide +kernel
theorem d_lw_law_401 : decode b_lw_law 401 = .ok (.istore 6, 2) := by decide +kernel
theorem d_lw_law_403 : decode b_lw_law 403 = .ok (.aload_n 2, 1) := by decide +kernel
theorem d_lw_law_404 : decode b_lw_law 404 = .ok (.invokevirtual 68, 3) := by decide +kernel
theorem d_lw_law_407 : decode b_lw_law 407 = .ok (.iload 5, 2) := by decide +kernel
theorem d_lw_law_409 : decode b_lw_law 409 = .ok (.if_icmp .eq 5, 3) := by decide +kernel
theorem d_lw_law_412 : decode b_lw_law 412 = .ok (.iconst 0, 1) := by decide +kernel
theorem d_lw_law_413 : decode b_lw_law 413 = .ok (.ireturn, 1) := by decide +kernel
theorem d_lw_law_414 : decode b_lw_law 414 = .ok (.iload 5, 2) := by decide +kernel
theorem d_lw_law_416 : decode b_lw_law 416 = .ok (.ifCond .ne 22, 3) := by decide +kernel
theorem d_lw_law_419 : decode b_lw_law 419 = .ok (.aload_n 3, 1) := by decide +kernel
theorem d_lw_law_420 : decode b_lw_law 420 = .ok (.iconst 0, 1) := by decide +kernel
theorem d_lw_law_421 : decode b_lw_law 421 = .ok (.laload, 1) := by decide +kernel
theorem d_lw_law_422 : decode b_lw_law 422 = .ok (.iload 6, 2) := by decide +kernel
theorem d_lw_law_424 : decode b_lw_law 424 = .ok (.ifCond .eq 7, 3) := by decide +kernel
theorem d_lw_law_427 : decode b_lw_law 427 = .ok (.lconst 1, 1) := by decide +kernel
theorem d_lw_law_428 : decode b_lw_law 428 = .ok (.goto 4, 3) := by decide +kernel
theorem d_lw_law_431 : decode b_lw_law 431 = .ok (.lconst 0, 1) := by decide +kernel
theorem d_lw_law_432 : decode b_lw_law 432 = .ok (.lcmp, 1) := by decide +kernel
theorem d_lw_law_433 : decode b_lw_law 433 = .ok (.ifCond .eq 5, 3) := by decide +kernel
theorem d_lw_law_436 : decode b_lw_law 436 = .ok (.iconst 0, 1) := by decide +kernel
theorem d_lw_law_437 : decode b_lw_law 437 = .ok (.ireturn, 1) := by decide +kernel
theorem d_lw_law_438 : decode b_lw_law 438 = .ok (.goto 145, 3) := by decide +kernel
theorem d_lw_law_441 : decode b_lw_law 441 = .ok (.aload_n 1, 1) := by decide +kernel
theorem d_lw_law_442 : decode b_lw_law 442 = .ok (.aload_n 0, 1) := by decide +kernel
theorem d_lw_law_443 : decode b_lw_law 443 = .ok (.iload 4, 2) := by decide +kernel
theorem d_lw_law_445 : decode b_lw_law 445 = .ok (.iconst 1, 1) := by decide +kernel
theorem d_lw_law_446 : decode b_lw_law 446 = .ok (.iadd, 1) := by decide +kernel
theorem d_lw_law_447 : decode b_lw_law 447 = .ok (.iaload, 1) := by decide +kernel
theorem d_lw_law_448 : decode b_lw_law 448 = .ok (.aload_n 0, 1) := by decide +kernel
theorem d_lw_law_449 : decode b_lw_law 449 = .ok (.iload 4, 2) := by decide +kernel
theorem d_lw_law_451 : decode b_lw_law 451 = .ok (.iconst 2, 1) := by decide +kernel
theorem d_lw_law_452 : decode b_lw_law 452 = .ok (.iadd, 1) := by decide +kernel
theorem d_lw_law_453 : decode b_lw_law 453 = .ok (.iaload, 1) := by decide +kernel
theorem d_lw_law_454 : decode b_lw_law 454 = .ok (.invokevirtual 71, 3) := by decide +kernel
theorem d_lw_law_457 : decode b_lw_law 457 = .ok (.aload_n 2, 1) := by decide +kernel
theorem d_lw_law_458 : decode b_lw_law 458 = .ok (.aload_n 0, 1) := by decide +kernel
theorem d_lw_law_459 : decode b_lw_law 459 = .ok (.iload 4, 2) := by decide +kernel
theorem d_lw_law_461 : decode b_lw_law 461 = .ok (.iconst 1, 1) := by decide +kernel
