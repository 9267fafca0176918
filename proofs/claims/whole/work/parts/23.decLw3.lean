theorem d_Lw_law_311 : decode k_Lw_law.1 311 = .ok (.iconst 0, 1) := by decide +kernel
theorem d_Lw_law_312 : decode k_Lw_law.1 312 = .ok (.ireturn, 1) := by decide +kernel
theorem d_Lw_law_313 : decode k_Lw_law.1 313 = .ok (.goto 625, 3) := by decide +kernel
theorem d_Lw_law_316 : decode k_Lw_law.1 316 = .ok (.aload_n 1, 1) := by decide +kernel
theorem d_Lw_law_317 : decode k_Lw_law.1 317 = .ok (.aload_n 0, 1) := by decide +kernel
theorem d_Lw_law_318 : decode k_Lw_law.1 318 = .ok (.iload 4, 2) := by decide +kernel
theorem d_Lw_law_320 : decode k_Lw_law.1 320 = .ok (.iconst 1, 1) := by decide +kernel
theorem d_Lw_law_321 : decode k_Lw_law.1 321 = .ok (.iadd, 1) := by decide +kernel
theorem d_Lw_law_322 : decode k_Lw_law.1 322 = .ok (.iaload, 1) := by decide +kernel
theorem d_Lw_law_323 : decode k_Lw_law.1 323 = .ok (.aload_n 0, 1) := by decide +kernel
theorem d_Lw_law_324 : decode k_Lw_law.1 324 = .ok (.iload 4, 2) := by decide +kernel
theorem d_Lw_law_326 : decode k_Lw_law.1 326 = .ok (.iconst 2, 1) := by decide +kernel
theorem d_Lw_law_327 : decode k_Lw_law.1 327 = .ok (.iadd, 1) := by decide +kernel
theorem d_Lw_law_328 : decode k_Lw_law.1 328 = .ok (.iaload, 1) := by decide +kernel
theorem d_Lw_law_329 : decode k_Lw_law.1 329 = .ok (.aload_n 3, 1) := by decide +kernel
theorem d_Lw_law_330 : decode k_Lw_law.1 330 = .ok (.invokestatic 75, 3) := by decide +kernel
theorem d_Lw_law_333 : decode k_Lw_law.1 333 = .ok (.istore 5, 2) := by decide +kernel
theorem d_Lw_law_335 : decode k_Lw_law.1 335 = .ok (.aload_n 2, 1) := by decide +kernel
theorem d_Lw_law_336 : decode k_Lw_law.1 336 = .ok (.aload_n 0, 1) := by decide +kernel
theorem d_Lw_law_337 : decode k_Lw_law.1 337 = .ok (.iload 4, 2) := by decide +kernel
theorem d_Lw_law_339 : decode k_Lw_law.1 339 = .ok (.iconst 1, 1) := by decide +kernel
theorem d_Lw_law_340 : decode k_Lw_law.1 340 = .ok (.iadd, 1) := by decide +kernel
theorem d_Lw_law_341 : decode k_Lw_law.1 341 = .ok (.iaload, 1) := by decide +kernel
theorem d_Lw_law_342 : decode k_Lw_law.1 342 = .ok (.aload_n 0, 1) := by decide +kernel
theorem d_Lw_law_343 : decode k_Lw_law.1 343 = .ok (.iload 4, 2) := by decide +kernel
theorem d_Lw_law_345 : decode k_Lw_law.1 345 = .ok (.iconst 2, 1) := by decide +kernel
theorem d_Lw_law_346 : decode k_Lw_law.1 346 = .ok (.iadd, 1) := by decide +kernel
theorem d_Lw_law_347 : decode k_Lw_law.1 347 = .ok (.iaload, 1) := by decide +kernel
theorem d_Lw_law_348 : decode k_Lw_law.1 348 = .ok (.invokevirtual 78, 3) := by decide +kernel
theorem d_Lw_law_351 : decode k_Lw_law.1 351 = .ok (.istore 6, 2) := by decide +kernel
theorem d_Lw_law_353 : decode k_Lw_law.1 353 = .ok (.aload_n 2, 1) := by decide +kernel
theorem d_Lw_law_354 : decode k_Lw_law.1 354 = .ok (.invokevirtual 65, 3) := by decide +kernel
theorem d_Lw_law_357 : decode k_Lw_law.1 357 = .ok (.iload 5, 2) := by decide +kernel
theorem d_Lw_law_359 : decode k_Lw_law.1 359 = .ok (.if_icmp .eq 5, 3) := by decide +kernel
theorem d_Lw_law_362 : decode k_Lw_law.1 362 = .ok (.iconst 0, 1) := by decide +kernel
theorem d_Lw_law_363 : decode k_Lw_law.1 363 = .ok (.ireturn, 1) := by decide +kernel
theorem d_Lw_law_364 : decode k_Lw_law.1 364 = .ok (.iload 5, 2) := by decide +kernel
theorem d_Lw_law_366 : decode k_Lw_law.1 366 = .ok (.ifCond .ne 15, 3) := by decide +kernel
theorem d_Lw_law_369 : decode k_Lw_law.1 369 = .ok (.aload_n 3, 1) := by decide +kernel
theorem d_Lw_law_370 : decode k_Lw_law.1 370 = .ok (.iconst 0, 1) := by decide +kernel
theorem d_Lw_law_371 : decode k_Lw_law.1 371 = .ok (.laload, 1) := by decide +kernel
theorem d_Lw_law_372 : decode k_Lw_law.1 372 = .ok (.iload 6, 2) := by decide +kernel
theorem d_Lw_law_374 : decode k_Lw_law.1 374 = .ok (.i2l, 1) := by decide +kernel
theorem d_Lw_law_375 : decode k_Lw_law.1 375 = .ok (.lcmp, 1) := by decide +kernel
theorem d_Lw_law_376 : decode k_Lw_law.1 376 = .ok (.ifCond .eq 5, 3) := by decide +kernel
theorem d_Lw_law_379 : decode k_Lw_law.1 379 = .ok (.iconst 0, 1) := by decide +kernel
theorem d_Lw_law_380 : decode k_Lw_law.1 380 = .ok (.ireturn, 1) := by decide +kernel
theorem d_Lw_law_381 : decode k_Lw_law.1 381 = .ok (.goto 557, 3) := by decide +kernel
theorem d_Lw_law_384 : decode k_Lw_law.1 384 = .ok (.aload_n 1, 1) := by decide +kernel
theorem d_Lw_law_385 : decode k_Lw_law.1 385 = .ok (.aload_n 0, 1) := by decide +kernel
theorem d_Lw_law_386 : decode k_Lw_law.1 386 = .ok (.iload 4, 2) := by decide +kernel
theorem d_Lw_law_388 : decode k_Lw_law.1 388 = .ok (.iconst 1, 1) := by decide +kernel
theorem d_Lw_law_389 : decode k_Lw_law.1 389 = .ok (.iadd, 1) := by decide +kernel
theorem d_Lw_law_390 : decode k_Lw_law.1 390 = .ok (.iaload, 1) := by decide +kernel
theorem d_Lw_law_391 : decode k_Lw_law.1 391 = .ok (.aload_n 3, 1) := by decide +kernel
theorem d_Lw_law_392 : decode k_Lw_law.1 392 = .ok (.invokestatic 79, 3) := by decide +kernel
theorem d_Lw_law_395 : decode k_Lw_law.1 395 = .ok (.istore 5, 2) := by decide +kernel
theorem d_Lw_law_397 : decode k_Lw_law.1 397 = .ok (.aload_n 2, 1) := by decide +kernel
theorem d_Lw_law_398 : decode k_Lw_law.1 398 = .ok (.aload_n 0, 1) := by decide +kernel
theorem d_Lw_law_399 : decode k_Lw_law.1 399 = .ok (.iload 4, 2) := by decide +kernel
theorem d_Lw_law_401 : decode k_Lw_law.1 401 = .ok (.iconst 1, 1) := by decide +kernel
theorem d_Lw_law_402 : decode k_Lw_law.1 402 = .ok (.iadd, 1) := by decide +kernel
theorem d_Lw_law_403 : decode k_Lw_law.1 403 = .ok (.iaload, 1) := by decide +kernel
theorem d_Lw_law_404 : decode k_Lw_law.1 404 = .ok (.invokevirtual 82, 3) := by decide +kernel
theorem d_Lw_law_407 : decode k_Lw_law.1 407 = .ok (.istore 6, 2) := by decide +kernel
theorem d_Lw_law_409 : decode k_Lw_law.1 409 = .ok (.aload_n 2, 1) := by decide +kernel
theorem d_Lw_law_410 : decode k_Lw_law.1 410 = .ok (.invokevirtual 65, 3) := by decide +kernel
theorem d_Lw_law_413 : decode k_Lw_law.1 413 = .ok (.iload 5, 2) := by decide +kernel
theorem d_Lw_law_415 : decode k_Lw_law.1 415 = .ok (.if_icmp .eq 5, 3) := by decide +kernel
theorem d_Lw_law_418 : decode k_Lw_law.1 418 = .ok (.iconst 0, 1) := by decide +kernel
theorem d_Lw_law_419 : decode k_Lw_law.1 419 = .ok (.ireturn, 1) := by decide +kernel
theorem d_Lw_law_420 : decode k_Lw_law.1 420 = .ok (.iload 5, 2) := by decide +kernel
theorem d_Lw_law_422 : decode k_Lw_law.1 422 = .ok (.ifCond .ne 15, 3) := by decide +kernel
theorem d_Lw_law_425 : decode k_Lw_law.1 425 = .ok (.aload_n 3, 1) := by decide +kernel
theorem d_Lw_law_426 : decode k_Lw_law.1 426 = .ok (.iconst 0, 1) := by decide +kernel
theorem d_Lw_law_427 : decode k_Lw_law.1 427 = .ok (.laload, 1) := by decide +kernel
theorem d_Lw_law_428 : decode k_Lw_law.1 428 = .ok (.iload 6, 2) := by decide +kernel
theorem d_Lw_law_430 : decode k_Lw_law.1 430 = .ok (.i2l, 1) := by decide +kernel
theorem d_Lw_law_431 : decode k_Lw_law.1 431 = .ok (.lcmp, 1) := by decide +kernel
theorem d_Lw_law_432 : decode k_Lw_law.1 432 = .ok (.ifCond .eq 5, 3) := by decide +kernel
theorem d_Lw_law_435 : decode k_Lw_law.1 435 = .ok (.iconst 0, 1) := by decide +kernel
theorem d_Lw_law_436 : decode k_Lw_law.1 436 = .ok (.ireturn, 1) := by decide +kernel
theorem d_Lw_law_437 : decode k_Lw_law.1 437 = .ok (.goto 501, 3) := by decide +kernel
theorem d_Lw_law_440 : decode k_Lw_law.1 440 = .ok (.aload_n 1, 1) := by decide +kernel
theorem d_Lw_law_441 : decode k_Lw_law.1 441 = .ok (.aload_n 0, 1) := by decide +kernel
theorem d_Lw_law_442 : decode k_Lw_law.1 442 = .ok (.iload 4, 2) := by decide +kernel
theorem d_Lw_law_444 : decode k_Lw_law.1 444 = .ok (.iconst 1, 1) := by decide +kernel
theorem d_Lw_law_445 : decode k_Lw_law.1 445 = .ok (.iadd, 1) := by decide +kernel
theorem d_Lw_law_446 : decode k_Lw_law.1 446 = .ok (.iaload, 1) := by decide +kernel
theorem d_Lw_law_447 : decode k_Lw_law.1 447 = .ok (.aload_n 0, 1) := by decide +kernel
theorem d_Lw_law_448 : decode k_Lw_law.1 448 = .ok (.iload 4, 2) := by decide +kernel
theorem d_Lw_law_450 : decode k_Lw_law.1 450 = .ok (.iconst 2, 1) := by decide +kernel
theorem d_Lw_law_451 : decode k_Lw_law.1 451 = .ok (.iadd, 1) := by decide +kernel
theorem d_Lw_law_452 : decode k_Lw_law.1 452 = .ok (.iaload, 1) := by decide +kernel
theorem d_Lw_law_453 : decode k_Lw_law.1 453 = .ok (.aload_n 3, 1) := by decide +kernel
theorem d_Lw_law_454 : decode k_Lw_law.1 454 = .ok (.invokestatic 83, 3) := by decide +kernel
theorem d_Lw_law_457 : decode k_Lw_law.1 457 = .ok (.istore 5, 2) := by decide +kernel
theorem d_Lw_law_459 : decode k_Lw_law.1 459 = .ok (.aload_n 2, 1) := by decide +kernel
theorem d_Lw_law_460 : decode k_Lw_law.1 460 = .ok (.aload_n 0, 1) := by decide +kernel
theorem d_Lw_law_461 : decode k_Lw_law.1 461 = .ok (.iload 4, 2) := by decide +kernel
theorem d_Lw_law_463 : decode k_Lw_law.1 463 = .ok (.iconst 1, 1) := by decide +kernel
theorem d_Lw_law_464 : decode k_Lw_law.1 464 = .ok (.iadd, 1) := by decide +kernel
theorem d_Lw_law_465 : decode k_Lw_law.1 465 = .ok (.iaload, 1) := by decide +kernel
theorem d_Lw_law_466 : decode k_Lw_law.1 466 = .ok (.aload_n 0, 1) := by decide +kernel
theorem d_Lw_law_467 : decode k_Lw_law.1 467 = .ok (.iload 4, 2) := by decide +kernel
theorem d_Lw_law_469 : decode k_Lw_law.1 469 = .ok (.iconst 2, 1) := by decide +kernel
theorem d_Lw_law_470 : decode k_Lw_law.1 470 = .ok (.iadd, 1) := by decide +kernel
theorem d_Lw_law_471 : decode k_Lw_law.1 471 = .ok (.iaload, 1) := by decide +kernel
theorem d_Lw_law_472 : decode k_Lw_law.1 472 = .ok (.invokevirtual 85, 3) := by decide +kernel
theorem d_Lw_law_475 : decode k_Lw_law.1 475 = .ok (.istore 6, 2) := by decide +kernel
theorem d_Lw_law_477 : decode k_Lw_law.1 477 = .ok (.aload_n 2, 1) := by decide +kernel
theorem d_Lw_law_478 : decode k_Lw_law.1 478 = .ok (.invokevirtual 65, 3) := by decide +kernel
theorem d_Lw_law_481 : decode k_Lw_law.1 481 = .ok (.iload 5, 2) := by decide +kernel
theorem d_Lw_law_483 : decode k_Lw_law.1 483 = .ok (.if_icmp .eq 5, 3) := by decide +kernel
theorem d_Lw_law_486 : decode k_Lw_law.1 486 = .ok (.iconst 0, 1) := by decide +kernel
theorem d_Lw_law_487 : decode k_Lw_law.1 487 = .ok (.ireturn, 1) := by decide +kernel
theorem d_Lw_law_488 : decode k_Lw_law.1 488 = .ok (.iload 5, 2) := by decide +kernel
theorem d_Lw_law_490 : decode k_Lw_law.1 490 = .ok (.ifCond .ne 15, 3) := by decide +kernel
theorem d_Lw_law_493 : decode k_Lw_law.1 493 = .ok (.aload_n 3, 1) := by decide +kernel
theorem d_Lw_law_494 : decode k_Lw_law.1 494 = .ok (.iconst 0, 1) := by decide +kernel
