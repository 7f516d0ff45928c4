theorem d_La_law_409 : decode b_La_law 409 = .ok (.iload 4, 2) := by decide +kernel
theorem d_La_law_411 : decode b_La_law 411 = .ok (.iconst 1, 1) := by decide +kernel
theorem d_La_law_412 : decode b_La_law 412 = .ok (.iadd, 1) := by decide +kernel
theorem d_La_law_413 : decode b_La_law 413 = .ok (.iaload, 1) := by decide +kernel
theorem d_La_law_414 : decode b_La_law 414 = .ok (.aload_n 3, 1) := by decide +kernel
theorem d_La_law_415 : decode b_La_law 415 = .ok (.invokestatic 82, 3) := by decide +kernel
theorem d_La_law_418 : decode b_La_law 418 = .ok (.istore 5, 2) := by decide +kernel
theorem d_La_law_420 : decode b_La_law 420 = .ok (.aload_n 2, 1) := by decide +kernel
theorem d_La_law_421 : decode b_La_law 421 = .ok (.aload_n 0, 1) := by decide +kernel
theorem d_La_law_422 : decode b_La_law 422 = .ok (.iload 4, 2) := by decide +kernel
theorem d_La_law_424 : decode b_La_law 424 = .ok (.iconst 1, 1) := by decide +kernel
theorem d_La_law_425 : decode b_La_law 425 = .ok (.iadd, 1) := by decide +kernel
theorem d_La_law_426 : decode b_La_law 426 = .ok (.iaload, 1) := by decide +kernel
theorem d_La_law_427 : decode b_La_law 427 = .ok (.invokevirtual 85, 3) := by decide +kernel
theorem d_La_law_430 : decode b_La_law 430 = .ok (.istore 6, 2) := by decide +kernel
theorem d_La_law_432 : decode b_La_law 432 = .ok (.aload_n 2, 1) := by decide +kernel
theorem d_La_law_433 : decode b_La_law 433 = .ok (.invokevirtual 63, 3) := by decide +kernel
theorem d_La_law_436 : decode b_La_law 436 = .ok (.iload 5, 2) := by decide +kernel
theorem d_La_law_438 : decode b_La_law 438 = .ok (.if_icmp .eq 5, 3) := by decide +kernel
theorem d_La_law_441 : decode b_La_law 441 = .ok (.iconst 0, 1) := by decide +kernel
theorem d_La_law_442 : decode b_La_law 442 = .ok (.ireturn, 1) := by decide +kernel
theorem d_La_law_443 : decode b_La_law 443 = .ok (.iload 5, 2) := by decide +kernel
theorem d_La_law_445 : decode b_La_law 445 = .ok (.ifCond .ne 15, 3) := by decide +kernel
theorem d_La_law_448 : decode b_La_law 448 = .ok (.aload_n 3, 1) := by decide +kernel
theorem d_La_law_449 : decode b_La_law 449 = .ok (.iconst 0, 1) := by decide +kernel
theorem d_La_law_450 : decode b_La_law 450 = .ok (.laload, 1) := by decide +kernel
theorem d_La_law_451 : decode b_La_law 451 = .ok (.iload 6, 2) := by decide +kernel
theorem d_La_law_453 : decode b_La_law 453 = .ok (.i2l, 1) := by decide +kernel
theorem d_La_law_454 : decode b_La_law 454 = .ok (.lcmp, 1) := by decide +kernel
theorem d_La_law_455 : decode b_La_law 455 = .ok (.ifCond .eq 5, 3) := by decide +kernel
theorem d_La_law_458 : decode b_La_law 458 = .ok (.iconst 0, 1) := by decide +kernel
theorem d_La_law_459 : decode b_La_law 459 = .ok (.ireturn, 1) := by decide +kernel
theorem d_La_law_460 : decode b_La_law 460 = .ok (.goto 339, 3) := by decide +kernel
theorem d_La_law_463 : decode b_La_law 463 = .ok (.aload_n 1, 1) := by decide +kernel
theorem d_La_law_464 : decode b_La_law 464 = .ok (.aload_n 0, 1) := by decide +kernel
theorem d_La_law_465 : decode b_La_law 465 = .ok (.iload 4, 2) := by decide +kernel
theorem d_La_law_467 : decode b_La_law 467 = .ok (.iconst 1, 1) := by decide +kernel
theorem d_La_law_468 : decode b_La_law 468 = .ok (.iadd, 1) := by decide +kernel
theorem d_La_law_469 : decode b_La_law 469 = .ok (.iaload, 1) := by decide +kernel
theorem d_La_law_470 : decode b_La_law 470 = .ok (.aload_n 3, 1) := by decide +kernel
theorem d_La_law_471 : decode b_La_law 471 = .ok (.invokestatic 86, 3) := by decide +kernel
theorem d_La_law_474 : decode b_La_law 474 = .ok (.istore 5, 2) := by decide +kernel
theorem d_La_law_476 : decode b_La_law 476 = .ok (.aload_n 2, 1) := by decide +kernel
theorem d_La_law_477 : decode b_La_law 477 = .ok (.aload_n 0, 1) := by decide +kernel
theorem d_La_law_478 : decode b_La_law 478 = .ok (.iload 4, 2) := by decide +kernel
theorem d_La_law_480 : decode b_La_law 480 = .ok (.iconst 1, 1) := by decide +kernel
theorem d_La_law_481 : decode b_La_law 481 = .ok (.iadd, 1) := by decide +kernel
theorem d_La_law_482 : decode b_La_law 482 = .ok (.iaload, 1) := by decide +kernel
theorem d_La_law_483 : decode b_La_law 483 = .ok (.invokevirtual 88, 3) := by decide +kernel
theorem d_La_law_486 : decode b_La_law 486 = .ok (.istore 6, 2) := by decide +kernel
theorem d_La_law_488 : decode b_La_law 488 = .ok (.aload_n 2, 1) := by decide +kernel
theorem d_La_law_489 : decode b_La_law 489 = .ok (.invokevirtual 63, 3) := by decide +kernel
theorem d_La_law_492 : decode b_La_law 492 = .ok (.iload 5, 2) := by decide +kernel
theorem d_La_law_494 : decode b_La_law 494 = .ok (.if_icmp .eq 5, 3) := by decide +kernel
theorem d_La_law_497 : decode b_La_law 497 = .ok (.iconst 0, 1) := by decide +kernel
theorem d_La_law_498 : decode b_La_law 498 = .ok (.ireturn, 1) := by decide +kernel
theorem d_La_law_499 : decode b_La_law 499 = .ok (.iload 5, 2) := by decide +kernel
theorem d_La_law_501 : decode b_La_law 501 = .ok (.ifCond .ne 15, 3) := by decide +kernel
theorem d_La_law_504 : decode b_La_law 504 = .ok (.aload_n 3, 1) := by decide +kernel
theorem d_La_law_505 : decode b_La_law 505 = .ok (.iconst 0, 1) := by decide +kernel
theorem d_La_law_506 : decode b_La_law 506 = .ok (.laload, 1) := by decide +kernel
theorem d_La_law_507 : decode b_La_law 507 = .ok (.iload 6, 2) := by decide +kernel
theorem d_La_law_509 : decode b_La_law 509 = .ok (.i2l, 1) := by decide +kernel
theorem d_La_law_510 : decode b_La_law 510 = .ok (.lcmp, 1) := by decide +kernel
theorem d_La_law_511 : decode b_La_law 511 = .ok (.ifCond .eq 5, 3) := by decide +kernel
theorem d_La_law_514 : decode b_La_law 514 = .ok (.iconst 0, 1) := by decide +kernel
theorem d_La_law_515 : decode b_La_law 515 = .ok (.ireturn, 1) := by decide +kernel
theorem d_La_law_516 : decode b_La_law 516 = .ok (.goto 283, 3) := by decide +kernel
theorem d_La_law_519 : decode b_La_law 519 = .ok (.aload_n 1, 1) := by decide +kernel
theorem d_La_law_520 : decode b_La_law 520 = .ok (.aload_n 0, 1) := by decide +kernel
theorem d_La_law_521 : decode b_La_law 521 = .ok (.iload 4, 2) := by decide +kernel
theorem d_La_law_523 : decode b_La_law 523 = .ok (.iconst 1, 1) := by decide +kernel
theorem d_La_law_524 : decode b_La_law 524 = .ok (.iadd, 1) := by decide +kernel
theorem d_La_law_525 : decode b_La_law 525 = .ok (.iaload, 1) := by decide +kernel
theorem d_La_law_526 : decode b_La_law 526 = .ok (.aload_n 3, 1) := by decide +kernel
theorem d_La_law_527 : decode b_La_law 527 = .ok (.invokestatic 89, 3) := by decide +kernel
theorem d_La_law_530 : decode b_La_law 530 = .ok (.istore 5, 2) := by decide +kernel
theorem d_La_law_532 : decode b_La_law 532 = .ok (.aload_n 2, 1) := by decide +kernel
theorem d_La_law_533 : decode b_La_law 533 = .ok (.aload_n 0, 1) := by decide +kernel
theorem d_La_law_534 : decode b_La_law 534 = .ok (.iload 4, 2) := by decide +kernel
