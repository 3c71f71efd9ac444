/-! names of the law -/
theorem dL_slots_303 : decode cL_slots 303 = .ok (.aload_n 0, 1) := by decide +kernel
theorem dL_slots_304 : decode cL_slots 304 = .ok (.iconst 2, 1) := by decide +kernel
theorem dL_slots_305 : decode cL_slots 305 = .ok (.invokevirtual 13, 3) := by decide +kernel
theorem dL_slots_308 : decode cL_slots 308 = .ok (.if_icmp .gt 7, 3) := by decide +kernel
theorem dL_slots_311 : decode cL_slots 311 = .ok (.iconst 1, 1) := by decide +kernel
theorem dL_slots_312 : decode cL_slots 312 = .ok (.goto 4, 3) := by decide +kernel
theorem dL_slots_315 : decode cL_slots 315 = .ok (.iconst 0, 1) := by decide +kernel
theorem dL_slots_316 : decode cL_slots 316 = .ok (.if_icmp .eq 5, 3) := by decide +kernel
theorem dL_slots_319 : decode cL_slots 319 = .ok (.iconst 0, 1) := by decide +kernel
theorem dL_slots_320 : decode cL_slots 320 = .ok (.ireturn, 1) := by decide +kernel
theorem dL_slots_321 : decode cL_slots 321 = .ok (.iconst 0, 1) := by decide +kernel
theorem dL_slots_322 : decode cL_slots 322 = .ok (.istore 12, 2) := by decide +kernel
theorem dL_slots_324 : decode cL_slots 324 = .ok (.iload 12, 2) := by decide +kernel
theorem dL_slots_326 : decode cL_slots 326 = .ok (.bipush 6, 2) := by decide +kernel
theorem dL_slots_328 : decode cL_slots 328 = .ok (.if_icmp .ge 122, 3) := by decide +kernel
theorem dL_slots_331 : decode cL_slots 331 = .ok (.aload_n 0, 1) := by decide +kernel
theorem dL_slots_332 : decode cL_slots 332 = .ok (.iload 12, 2) := by decide +kernel
theorem dL_slots_334 : decode cL_slots 334 = .ok (.iload 7, 2) := by decide +kernel
theorem dL_slots_336 : decode cL_slots 336 = .ok (.iconst 0, 1) := by decide +kernel
theorem dL_slots_337 : decode cL_slots 337 = .ok (.invokevirtual 25, 3) := by decide +kernel
theorem dL_slots_340 : decode cL_slots 340 = .ok (.istore 13, 2) := by decide +kernel
theorem dL_slots_342 : decode cL_slots 342 = .ok (.iload 13, 2) := by decide +kernel
theorem dL_slots_344 : decode cL_slots 344 = .ok (.ifCond .le 30, 3) := by decide +kernel
theorem dL_slots_347 : decode cL_slots 347 = .ok (.iload 13, 2) := by decide +kernel
theorem dL_slots_349 : decode cL_slots 349 = .ok (.aload_n 0, 1) := by decide +kernel
theorem dL_slots_350 : decode cL_slots 350 = .ok (.iload 12, 2) := by decide +kernel
theorem dL_slots_352 : decode cL_slots 352 = .ok (.iconst 1, 1) := by decide +kernel
theorem dL_slots_353 : decode cL_slots 353 = .ok (.invokevirtual 19, 3) := by decide +kernel
theorem dL_slots_356 : decode cL_slots 356 = .ok (.if_icmp .gt 48, 3) := by decide +kernel
theorem dL_slots_359 : decode cL_slots 359 = .ok (.iload 7, 2) := by decide +kernel
theorem dL_slots_361 : decode cL_slots 361 = .ok (.aload_n 0, 1) := by decide +kernel
theorem dL_slots_362 : decode cL_slots 362 = .ok (.iconst 2, 1) := by decide +kernel
theorem dL_slots_363 : decode cL_slots 363 = .ok (.invokevirtual 13, 3) := by decide +kernel
theorem dL_slots_366 : decode cL_slots 366 = .ok (.if_icmp .le 38, 3) := by decide +kernel
theorem dL_slots_369 : decode cL_slots 369 = .ok (.iload 9, 2) := by decide +kernel
theorem dL_slots_371 : decode cL_slots 371 = .ok (.ifCond .eq 33, 3) := by decide +kernel
theorem dL_slots_374 : decode cL_slots 374 = .ok (.iload 13, 2) := by decide +kernel
theorem dL_slots_376 : decode cL_slots 376 = .ok (.ifCond .ge 7, 3) := by decide +kernel
theorem dL_slots_379 : decode cL_slots 379 = .ok (.iconst 1, 1) := by decide +kernel
theorem dL_slots_380 : decode cL_slots 380 = .ok (.goto 4, 3) := by decide +kernel
theorem dL_slots_383 : decode cL_slots 383 = .ok (.iconst 0, 1) := by decide +kernel
theorem dL_slots_384 : decode cL_slots 384 = .ok (.aload_n 0, 1) := by decide +kernel
theorem dL_slots_385 : decode cL_slots 385 = .ok (.iload 12, 2) := by decide +kernel
theorem dL_slots_387 : decode cL_slots 387 = .ok (.iload 7, 2) := by decide +kernel
theorem dL_slots_389 : decode cL_slots 389 = .ok (.iconst 1, 1) := by decide +kernel
theorem dL_slots_390 : decode cL_slots 390 = .ok (.invokevirtual 25, 3) := by decide +kernel
theorem dL_slots_393 : decode cL_slots 393 = .ok (.ifCond .ge 7, 3) := by decide +kernel
theorem dL_slots_396 : decode cL_slots 396 = .ok (.iconst 1, 1) := by decide +kernel
theorem dL_slots_397 : decode cL_slots 397 = .ok (.goto 4, 3) := by decide +kernel
theorem dL_slots_400 : decode cL_slots 400 = .ok (.iconst 0, 1) := by decide +kernel
theorem dL_slots_401 : decode cL_slots 401 = .ok (.if_icmp .eq 5, 3) := by decide +kernel
theorem dL_slots_404 : decode cL_slots 404 = .ok (.iconst 0, 1) := by decide +kernel
theorem dL_slots_405 : decode cL_slots 405 = .ok (.ireturn, 1) := by decide +kernel
theorem dL_slots_406 : decode cL_slots 406 = .ok (.iload 13, 2) := by decide +kernel
theorem dL_slots_408 : decode cL_slots 408 = .ok (.ifCond .le 36, 3) := by decide +kernel
theorem dL_slots_411 : decode cL_slots 411 = .ok (.iload 8, 2) := by decide +kernel
theorem dL_slots_413 : decode cL_slots 413 = .ok (.ifCond .le 31, 3) := by decide +kernel
theorem dL_slots_416 : decode cL_slots 416 = .ok (.iload 13, 2) := by decide +kernel
theorem dL_slots_418 : decode cL_slots 418 = .ok (.aload_n 0, 1) := by decide +kernel
theorem dL_slots_419 : decode cL_slots 419 = .ok (.iload 7, 2) := by decide +kernel
theorem dL_slots_421 : decode cL_slots 421 = .ok (.iconst 1, 1) := by decide +kernel
theorem dL_slots_422 : decode cL_slots 422 = .ok (.invokevirtual 35, 3) := by decide +kernel
theorem dL_slots_425 : decode cL_slots 425 = .ok (.if_icmp .le 19, 3) := by decide +kernel
theorem dL_slots_428 : decode cL_slots 428 = .ok (.aload_n 0, 1) := by decide +kernel
theorem dL_slots_429 : decode cL_slots 429 = .ok (.iload 12, 2) := by decide +kernel
theorem dL_slots_431 : decode cL_slots 431 = .ok (.iload 7, 2) := by decide +kernel
theorem dL_slots_433 : decode cL_slots 433 = .ok (.iconst 1, 1) := by decide +kernel
theorem dL_slots_434 : decode cL_slots 434 = .ok (.invokevirtual 25, 3) := by decide +kernel
theorem dL_slots_437 : decode cL_slots 437 = .ok (.iload 8, 2) := by decide +kernel
theorem dL_slots_439 : decode cL_slots 439 = .ok (.if_icmp .eq 5, 3) := by decide +kernel
theorem dL_slots_442 : decode cL_slots 442 = .ok (.iconst 0, 1) := by decide +kernel
theorem dL_slots_443 : decode cL_slots 443 = .ok (.ireturn, 1) := by decide +kernel
theorem dL_slots_444 : decode cL_slots 444 = .ok (.iinc 12 1, 3) := by decide +kernel
theorem dL_slots_447 : decode cL_slots 447 = .ok (.goto (-123), 3) := by decide +kernel
theorem dL_slots_450 : decode cL_slots 450 = .ok (.iinc 7 1, 3) := by decide +kernel
theorem dL_slots_453 : decode cL_slots 453 = .ok (.goto (-426), 3) := by decide +kernel
theorem dL_slots_456 : decode cL_slots 456 = .ok (.aload_n 0, 1) := by decide +kernel
theorem dL_slots_457 : decode cL_slots 457 = .ok (.iconst 1, 1) := by decide +kernel
theorem dL_slots_458 : decode cL_slots 458 = .ok (.invokevirtual 13, 3) := by decide +kernel
theorem dL_slots_461 : decode cL_slots 461 = .ok (.iload_n 2, 1) := by decide +kernel
theorem dL_slots_462 : decode cL_slots 462 = .ok (.if_icmp .ne 73, 3) := by decide +kernel
theorem dL_slots_465 : decode cL_slots 465 = .ok (.aload_n 0, 1) := by decide +kernel
theorem dL_slots_466 : decode cL_slots 466 = .ok (.bipush 8, 2) := by decide +kernel
theorem dL_slots_468 : decode cL_slots 468 = .ok (.invokevirtual 13, 3) := by decide +kernel
theorem dL_slots_471 : decode cL_slots 471 = .ok (.iload_n 3, 1) := by decide +kernel
theorem dL_slots_472 : decode cL_slots 472 = .ok (.if_icmp .ne 63, 3) := by decide +kernel
theorem dL_slots_475 : decode cL_slots 475 = .ok (.aload_n 0, 1) := by decide +kernel
theorem dL_slots_476 : decode cL_slots 476 = .ok (.iconst 5, 1) := by decide +kernel
theorem dL_slots_477 : decode cL_slots 477 = .ok (.invokevirtual 13, 3) := by decide +kernel
theorem dL_slots_480 : decode cL_slots 480 = .ok (.iload_n 1, 1) := by decide +kernel
theorem dL_slots_481 : decode cL_slots 481 = .ok (.iconst 3, 1) := by decide +kernel
theorem dL_slots_482 : decode cL_slots 482 = .ok (.iadd, 1) := by decide +kernel
theorem dL_slots_483 : decode cL_slots 483 = .ok (.bipush 16, 2) := by decide +kernel
theorem dL_slots_485 : decode cL_slots 485 = .ok (.if_icmp .ge 9, 3) := by decide +kernel
theorem dL_slots_488 : decode cL_slots 488 = .ok (.iload_n 1, 1) := by decide +kernel
theorem dL_slots_489 : decode cL_slots 489 = .ok (.iconst 3, 1) := by decide +kernel
theorem dL_slots_490 : decode cL_slots 490 = .ok (.iadd, 1) := by decide +kernel
theorem dL_slots_491 : decode cL_slots 491 = .ok (.goto 5, 3) := by decide +kernel
theorem dL_slots_494 : decode cL_slots 494 = .ok (.bipush 16, 2) := by decide +kernel
theorem dL_slots_496 : decode cL_slots 496 = .ok (.if_icmp .ne 39, 3) := by decide +kernel
theorem dL_slots_499 : decode cL_slots 499 = .ok (.aload_n 0, 1) := by decide +kernel
theorem dL_slots_500 : decode cL_slots 500 = .ok (.iconst 2, 1) := by decide +kernel
theorem dL_slots_501 : decode cL_slots 501 = .ok (.invokevirtual 13, 3) := by decide +kernel
theorem dL_slots_504 : decode cL_slots 504 = .ok (.iload_n 1, 1) := by decide +kernel
theorem dL_slots_505 : decode cL_slots 505 = .ok (.if_icmp .gt 30, 3) := by decide +kernel
theorem dL_slots_508 : decode cL_slots 508 = .ok (.aload_n 0, 1) := by decide +kernel
theorem dL_slots_509 : decode cL_slots 509 = .ok (.bipush 17, 2) := by decide +kernel
theorem dL_slots_511 : decode cL_slots 511 = .ok (.iconst 0, 1) := by decide +kernel
theorem dL_slots_512 : decode cL_slots 512 = .ok (.invokevirtual 35, 3) := by decide +kernel
theorem dL_slots_515 : decode cL_slots 515 = .ok (.iconst (-1), 1) := by decide +kernel
