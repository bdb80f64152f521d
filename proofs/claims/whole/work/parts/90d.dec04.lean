theorem dl_427 : decode code 427 = .ok (.istore 6, 2) := by decide +kernel
theorem dl_429 : decode code 429 = .ok (.aload_n 2, 1) := by decide +kernel
theorem dl_430 : decode code 430 = .ok (.invokevirtual 62, 3) := by decide +kernel
theorem dl_433 : decode code 433 = .ok (.iload 5, 2) := by decide +kernel
theorem dl_435 : decode code 435 = .ok (.if_icmp .eq 5, 3) := by decide +kernel
theorem dl_438 : decode code 438 = .ok (.iconst 0, 1) := by decide +kernel
theorem dl_439 : decode code 439 = .ok (.ireturn, 1) := by decide +kernel
theorem dl_440 : decode code 440 = .ok (.iload 5, 2) := by decide +kernel
theorem dl_442 : decode code 442 = .ok (.ifCond .ne 15, 3) := by decide +kernel
theorem dl_445 : decode code 445 = .ok (.aload_n 3, 1) := by decide +kernel
theorem dl_446 : decode code 446 = .ok (.iconst 0, 1) := by decide +kernel
theorem dl_447 : decode code 447 = .ok (.laload, 1) := by decide +kernel
theorem dl_448 : decode code 448 = .ok (.iload 6, 2) := by decide +kernel
theorem dl_450 : decode code 450 = .ok (.i2l, 1) := by decide +kernel
theorem dl_451 : decode code 451 = .ok (.lcmp, 1) := by decide +kernel
theorem dl_452 : decode code 452 = .ok (.ifCond .eq 5, 3) := by decide +kernel
theorem dl_455 : decode code 455 = .ok (.iconst 0, 1) := by decide +kernel
theorem dl_456 : decode code 456 = .ok (.ireturn, 1) := by decide +kernel
theorem dl_457 : decode code 457 = .ok (.goto 445, 3) := by decide +kernel
theorem dl_460 : decode code 460 = .ok (.aload_n 1, 1) := by decide +kernel
theorem dl_461 : decode code 461 = .ok (.invokevirtual 79, 3) := by decide +kernel
theorem dl_464 : decode code 464 = .ok (.aload_n 2, 1) := by decide +kernel
theorem dl_465 : decode code 465 = .ok (.invokevirtual 82, 3) := by decide +kernel
theorem dl_468 : decode code 468 = .ok (.if_icmp .eq 434, 3) := by decide +kernel
theorem dl_471 : decode code 471 = .ok (.iconst 0, 1) := by decide +kernel
theorem dl_472 : decode code 472 = .ok (.ireturn, 1) := by decide +kernel
theorem dl_473 : decode code 473 = .ok (.aload_n 1, 1) := by decide +kernel
theorem dl_474 : decode code 474 = .ok (.aload_n 0, 1) := by decide +kernel
theorem dl_475 : decode code 475 = .ok (.iload 4, 2) := by decide +kernel
theorem dl_477 : decode code 477 = .ok (.iconst 1, 1) := by decide +kernel
theorem dl_478 : decode code 478 = .ok (.iadd, 1) := by decide +kernel
theorem dl_479 : decode code 479 = .ok (.iaload, 1) := by decide +kernel
theorem dl_480 : decode code 480 = .ok (.aload_n 3, 1) := by decide +kernel
theorem dl_481 : decode code 481 = .ok (.invokestatic 83, 3) := by decide +kernel
theorem dl_484 : decode code 484 = .ok (.istore 5, 2) := by decide +kernel
theorem dl_486 : decode code 486 = .ok (.aload_n 2, 1) := by decide +kernel
theorem dl_487 : decode code 487 = .ok (.aload_n 0, 1) := by decide +kernel
theorem dl_488 : decode code 488 = .ok (.iload 4, 2) := by decide +kernel
theorem dl_490 : decode code 490 = .ok (.iconst 1, 1) := by decide +kernel
theorem dl_491 : decode code 491 = .ok (.iadd, 1) := by decide +kernel
theorem dl_492 : decode code 492 = .ok (.iaload, 1) := by decide +kernel
theorem dl_493 : decode code 493 = .ok (.invokevirtual 86, 3) := by decide +kernel
theorem dl_496 : decode code 496 = .ok (.istore 6, 2) := by decide +kernel
theorem dl_498 : decode code 498 = .ok (.aload_n 2, 1) := by decide +kernel
theorem dl_499 : decode code 499 = .ok (.invokevirtual 62, 3) := by decide +kernel
theorem dl_502 : decode code 502 = .ok (.iload 5, 2) := by decide +kernel
theorem dl_504 : decode code 504 = .ok (.if_icmp .eq 5, 3) := by decide +kernel
theorem dl_507 : decode code 507 = .ok (.iconst 0, 1) := by decide +kernel
theorem dl_508 : decode code 508 = .ok (.ireturn, 1) := by decide +kernel
theorem dl_509 : decode code 509 = .ok (.iload 5, 2) := by decide +kernel
theorem dl_511 : decode code 511 = .ok (.ifCond .ne 15, 3) := by decide +kernel
theorem dl_514 : decode code 514 = .ok (.aload_n 3, 1) := by decide +kernel
theorem dl_515 : decode code 515 = .ok (.iconst 0, 1) := by decide +kernel
theorem dl_516 : decode code 516 = .ok (.laload, 1) := by decide +kernel
theorem dl_517 : decode code 517 = .ok (.iload 6, 2) := by decide +kernel
theorem dl_519 : decode code 519 = .ok (.i2l, 1) := by decide +kernel
theorem dl_520 : decode code 520 = .ok (.lcmp, 1) := by decide +kernel
theorem dl_521 : decode code 521 = .ok (.ifCond .eq 5, 3) := by decide +kernel
theorem dl_524 : decode code 524 = .ok (.iconst 0, 1) := by decide +kernel
theorem dl_525 : decode code 525 = .ok (.ireturn, 1) := by decide +kernel
