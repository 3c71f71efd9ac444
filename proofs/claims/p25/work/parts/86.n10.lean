/-! names of the law -/
theorem dL_ballots_358 : decode cL_ballots 358 = .ok (.iload_n 2, 1) := by decide +kernel
theorem dL_ballots_359 : decode cL_ballots 359 = .ok (.iload 4, 2) := by decide +kernel
theorem dL_ballots_361 : decode cL_ballots 361 = .ok (.iconst 1, 1) := by decide +kernel
theorem dL_ballots_362 : decode cL_ballots 362 = .ok (.invokevirtual 32, 3) := by decide +kernel
theorem dL_ballots_365 : decode cL_ballots 365 = .ok (.istore 11, 2) := by decide +kernel
theorem dL_ballots_367 : decode cL_ballots 367 = .ok (.iload 6, 2) := by decide +kernel
theorem dL_ballots_369 : decode cL_ballots 369 = .ok (.ifCond .le 44, 3) := by decide +kernel
theorem dL_ballots_372 : decode cL_ballots 372 = .ok (.iload 4, 2) := by decide +kernel
theorem dL_ballots_374 : decode cL_ballots 374 = .ok (.aload_n 0, 1) := by decide +kernel
theorem dL_ballots_375 : decode cL_ballots 375 = .ok (.iconst 2, 1) := by decide +kernel
theorem dL_ballots_376 : decode cL_ballots 376 = .ok (.invokevirtual 13, 3) := by decide +kernel
theorem dL_ballots_379 : decode cL_ballots 379 = .ok (.if_icmp .le 34, 3) := by decide +kernel
theorem dL_ballots_382 : decode cL_ballots 382 = .ok (.iload 11, 2) := by decide +kernel
theorem dL_ballots_384 : decode cL_ballots 384 = .ok (.ifCond .lt 29, 3) := by decide +kernel
theorem dL_ballots_387 : decode cL_ballots 387 = .ok (.aload_n 0, 1) := by decide +kernel
theorem dL_ballots_388 : decode cL_ballots 388 = .ok (.iload_n 2, 1) := by decide +kernel
theorem dL_ballots_389 : decode cL_ballots 389 = .ok (.iload 4, 2) := by decide +kernel
theorem dL_ballots_391 : decode cL_ballots 391 = .ok (.iconst 2, 1) := by decide +kernel
theorem dL_ballots_392 : decode cL_ballots 392 = .ok (.invokevirtual 32, 3) := by decide +kernel
theorem dL_ballots_395 : decode cL_ballots 395 = .ok (.ifCond .ne 18, 3) := by decide +kernel
theorem dL_ballots_398 : decode cL_ballots 398 = .ok (.aload_n 0, 1) := by decide +kernel
theorem dL_ballots_399 : decode cL_ballots 399 = .ok (.iload_n 2, 1) := by decide +kernel
theorem dL_ballots_400 : decode cL_ballots 400 = .ok (.iload 4, 2) := by decide +kernel
theorem dL_ballots_402 : decode cL_ballots 402 = .ok (.iconst 0, 1) := by decide +kernel
theorem dL_ballots_403 : decode cL_ballots 403 = .ok (.invokevirtual 32, 3) := by decide +kernel
theorem dL_ballots_406 : decode cL_ballots 406 = .ok (.ifCond .ge 7, 3) := by decide +kernel
theorem dL_ballots_409 : decode cL_ballots 409 = .ok (.iconst 1, 1) := by decide +kernel
theorem dL_ballots_410 : decode cL_ballots 410 = .ok (.goto 4, 3) := by decide +kernel
theorem dL_ballots_413 : decode cL_ballots 413 = .ok (.iconst 0, 1) := by decide +kernel
theorem dL_ballots_414 : decode cL_ballots 414 = .ok (.istore 12, 2) := by decide +kernel
theorem dL_ballots_416 : decode cL_ballots 416 = .ok (.aload_n 0, 1) := by decide +kernel
theorem dL_ballots_417 : decode cL_ballots 417 = .ok (.iload_n 2, 1) := by decide +kernel
theorem dL_ballots_418 : decode cL_ballots 418 = .ok (.iload 4, 2) := by decide +kernel
theorem dL_ballots_420 : decode cL_ballots 420 = .ok (.iload 10, 2) := by decide +kernel
theorem dL_ballots_422 : decode cL_ballots 422 = .ok (.invokevirtual 52, 3) := by decide +kernel
theorem dL_ballots_425 : decode cL_ballots 425 = .ok (.istore 13, 2) := by decide +kernel
theorem dL_ballots_427 : decode cL_ballots 427 = .ok (.iload 13, 2) := by decide +kernel
theorem dL_ballots_429 : decode cL_ballots 429 = .ok (.iload 12, 2) := by decide +kernel
theorem dL_ballots_431 : decode cL_ballots 431 = .ok (.ifCond .eq 18, 3) := by decide +kernel
theorem dL_ballots_434 : decode cL_ballots 434 = .ok (.iload 11, 2) := by decide +kernel
theorem dL_ballots_436 : decode cL_ballots 436 = .ok (.ifCond .le 8, 3) := by decide +kernel
theorem dL_ballots_439 : decode cL_ballots 439 = .ok (.iload 11, 2) := by decide +kernel
theorem dL_ballots_441 : decode cL_ballots 441 = .ok (.goto 10, 3) := by decide +kernel
theorem dL_ballots_444 : decode cL_ballots 444 = .ok (.iload 10, 2) := by decide +kernel
theorem dL_ballots_446 : decode cL_ballots 446 = .ok (.goto 5, 3) := by decide +kernel
theorem dL_ballots_449 : decode cL_ballots 449 = .ok (.bipush (-4), 2) := by decide +kernel
theorem dL_ballots_451 : decode cL_ballots 451 = .ok (.if_icmp .ne 39, 3) := by decide +kernel
theorem dL_ballots_454 : decode cL_ballots 454 = .ok (.iload 12, 2) := by decide +kernel
theorem dL_ballots_456 : decode cL_ballots 456 = .ok (.ifCond .eq 16, 3) := by decide +kernel
theorem dL_ballots_459 : decode cL_ballots 459 = .ok (.aload_n 0, 1) := by decide +kernel
theorem dL_ballots_460 : decode cL_ballots 460 = .ok (.iload_n 2, 1) := by decide +kernel
theorem dL_ballots_461 : decode cL_ballots 461 = .ok (.iload 4, 2) := by decide +kernel
theorem dL_ballots_463 : decode cL_ballots 463 = .ok (.iconst 0, 1) := by decide +kernel
theorem dL_ballots_464 : decode cL_ballots 464 = .ok (.invokevirtual 32, 3) := by decide +kernel
theorem dL_ballots_467 : decode cL_ballots 467 = .ok (.iload 13, 2) := by decide +kernel
theorem dL_ballots_469 : decode cL_ballots 469 = .ok (.if_icmp .ne 21, 3) := by decide +kernel
theorem dL_ballots_472 : decode cL_ballots 472 = .ok (.aload_n 0, 1) := by decide +kernel
theorem dL_ballots_473 : decode cL_ballots 473 = .ok (.iload_n 2, 1) := by decide +kernel
theorem dL_ballots_474 : decode cL_ballots 474 = .ok (.iload 4, 2) := by decide +kernel
theorem dL_ballots_476 : decode cL_ballots 476 = .ok (.bipush 100, 2) := by decide +kernel
theorem dL_ballots_478 : decode cL_ballots 478 = .ok (.invokevirtual 52, 3) := by decide +kernel
theorem dL_ballots_481 : decode cL_ballots 481 = .ok (.bipush (-2), 2) := by decide +kernel
theorem dL_ballots_483 : decode cL_ballots 483 = .ok (.if_icmp .ne 7, 3) := by decide +kernel
theorem dL_ballots_486 : decode cL_ballots 486 = .ok (.iconst 1, 1) := by decide +kernel
theorem dL_ballots_487 : decode cL_ballots 487 = .ok (.goto 4, 3) := by decide +kernel
theorem dL_ballots_490 : decode cL_ballots 490 = .ok (.iconst 0, 1) := by decide +kernel
theorem dL_ballots_491 : decode cL_ballots 491 = .ok (.ireturn, 1) := by decide +kernel
theorem dL_ballots_492 : decode cL_ballots 492 = .ok (.aload_n 0, 1) := by decide +kernel
theorem dL_ballots_493 : decode cL_ballots 493 = .ok (.iload_n 2, 1) := by decide +kernel
theorem dL_ballots_494 : decode cL_ballots 494 = .ok (.iload 4, 2) := by decide +kernel
theorem dL_ballots_496 : decode cL_ballots 496 = .ok (.iconst 0, 1) := by decide +kernel
theorem dL_ballots_497 : decode cL_ballots 497 = .ok (.invokevirtual 32, 3) := by decide +kernel
theorem dL_ballots_500 : decode cL_ballots 500 = .ok (.istore 10, 2) := by decide +kernel
theorem dL_ballots_502 : decode cL_ballots 502 = .ok (.aload_n 0, 1) := by decide +kernel
theorem dL_ballots_503 : decode cL_ballots 503 = .ok (.iload 4, 2) := by decide +kernel
theorem dL_ballots_505 : decode cL_ballots 505 = .ok (.iconst 2, 1) := by decide +kernel
theorem dL_ballots_506 : decode cL_ballots 506 = .ok (.invokevirtual 35, 3) := by decide +kernel
theorem dL_ballots_509 : decode cL_ballots 509 = .ok (.istore 11, 2) := by decide +kernel
theorem dL_ballots_511 : decode cL_ballots 511 = .ok (.iload 10, 2) := by decide +kernel
theorem dL_ballots_513 : decode cL_ballots 513 = .ok (.ifCond .le 37, 3) := by decide +kernel
theorem dL_ballots_516 : decode cL_ballots 516 = .ok (.iload 4, 2) := by decide +kernel
theorem dL_ballots_518 : decode cL_ballots 518 = .ok (.aload_n 0, 1) := by decide +kernel
theorem dL_ballots_519 : decode cL_ballots 519 = .ok (.iconst 2, 1) := by decide +kernel
theorem dL_ballots_520 : decode cL_ballots 520 = .ok (.invokevirtual 13, 3) := by decide +kernel
theorem dL_ballots_523 : decode cL_ballots 523 = .ok (.if_icmp .le 27, 3) := by decide +kernel
theorem dL_ballots_526 : decode cL_ballots 526 = .ok (.iload 9, 2) := by decide +kernel
theorem dL_ballots_528 : decode cL_ballots 528 = .ok (.ifCond .eq 22, 3) := by decide +kernel
theorem dL_ballots_531 : decode cL_ballots 531 = .ok (.iload 11, 2) := by decide +kernel
theorem dL_ballots_533 : decode cL_ballots 533 = .ok (.ifCond .le 17, 3) := by decide +kernel
theorem dL_ballots_536 : decode cL_ballots 536 = .ok (.iload 11, 2) := by decide +kernel
theorem dL_ballots_538 : decode cL_ballots 538 = .ok (.iload_n 3, 1) := by decide +kernel
theorem dL_ballots_539 : decode cL_ballots 539 = .ok (.ishr, 1) := by decide +kernel
theorem dL_ballots_540 : decode cL_ballots 540 = .ok (.iconst 1, 1) := by decide +kernel
theorem dL_ballots_541 : decode cL_ballots 541 = .ok (.iand, 1) := by decide +kernel
theorem dL_ballots_542 : decode cL_ballots 542 = .ok (.iconst 1, 1) := by decide +kernel
theorem dL_ballots_543 : decode cL_ballots 543 = .ok (.if_icmp .ne 7, 3) := by decide +kernel
theorem dL_ballots_546 : decode cL_ballots 546 = .ok (.iconst 1, 1) := by decide +kernel
theorem dL_ballots_547 : decode cL_ballots 547 = .ok (.goto 4, 3) := by decide +kernel
theorem dL_ballots_550 : decode cL_ballots 550 = .ok (.iconst 0, 1) := by decide +kernel
theorem dL_ballots_551 : decode cL_ballots 551 = .ok (.istore 12, 2) := by decide +kernel
theorem dL_ballots_553 : decode cL_ballots 553 = .ok (.aload_n 0, 1) := by decide +kernel
theorem dL_ballots_554 : decode cL_ballots 554 = .ok (.iload_n 3, 1) := by decide +kernel
theorem dL_ballots_555 : decode cL_ballots 555 = .ok (.iload 4, 2) := by decide +kernel
theorem dL_ballots_557 : decode cL_ballots 557 = .ok (.iconst 0, 1) := by decide +kernel
theorem dL_ballots_558 : decode cL_ballots 558 = .ok (.invokevirtual 25, 3) := by decide +kernel
theorem dL_ballots_561 : decode cL_ballots 561 = .ok (.istore 13, 2) := by decide +kernel
theorem dL_ballots_563 : decode cL_ballots 563 = .ok (.aload_n 0, 1) := by decide +kernel
theorem dL_ballots_564 : decode cL_ballots 564 = .ok (.iload 4, 2) := by decide +kernel
theorem dL_ballots_566 : decode cL_ballots 566 = .ok (.iconst 0, 1) := by decide +kernel
theorem dL_ballots_567 : decode cL_ballots 567 = .ok (.invokevirtual 35, 3) := by decide +kernel
