theorem d_lw_law_462 : decode b_lw_law 462 = .ok (.iadd, 1) := by decide +kernel
theorem d_lw_law_463 : decode b_lw_law 463 = .ok (.iaload, 1) := by decide +kernel
theorem d_lw_law_464 : decode b_lw_law 464 = .ok (.aload_n 0, 1) := by decide +kernel
theorem d_lw_law_465 : decode b_lw_law 465 = .ok (.iload 4, 2) := by decide +kernel
theorem d_lw_law_467 : decode b_lw_law 467 = .ok (.iconst 2, 1) := by decide +kernel
theorem d_lw_law_468 : decode b_lw_law 468 = .ok (.iadd, 1) := by decide +kernel
theorem d_lw_law_469 : decode b_lw_law 469 = .ok (.iaload, 1) := by decide +kernel
theorem d_lw_law_470 : decode b_lw_law 470 = .ok (.invokevirtual 74, 3) := by decide +kernel
theorem d_lw_law_473 : decode b_lw_law 473 = .ok (.if_icmp .eq 110, 3) := by decide +kernel
theorem d_lw_law_476 : decode b_lw_law 476 = .ok (.iconst 0, 1) := by decide +kernel
theorem d_lw_law_477 : decode b_lw_law 477 = .ok (.ireturn, 1) := by decide +kernel
theorem d_lw_law_478 : decode b_lw_law 478 = .ok (.aload_n 1, 1) := by decide +kernel
theorem d_lw_law_479 : decode b_lw_law 479 = .ok (.invokevirtual 75, 3) := by decide +kernel
theorem d_lw_law_482 : decode b_lw_law 482 = .ok (.aload_n 2, 1) := by decide +kernel
theorem d_lw_law_483 : decode b_lw_law 483 = .ok (.invokevirtual 78, 3) := by decide +kernel
theorem d_lw_law_486 : decode b_lw_law 486 = .ok (.goto 97, 3) := by decide +kernel
theorem d_lw_law_489 : decode b_lw_law 489 = .ok (.aload_n 1, 1) := by decide +kernel
theorem d_lw_law_490 : decode b_lw_law 490 = .ok (.aload_n 0, 1) := by decide +kernel
theorem d_lw_law_491 : decode b_lw_law 491 = .ok (.iload 4, 2) := by decide +kernel
theorem d_lw_law_493 : decode b_lw_law 493 = .ok (.iconst 1, 1) := by decide +kernel
theorem d_lw_law_494 : decode b_lw_law 494 = .ok (.iadd, 1) := by decide +kernel
theorem d_lw_law_495 : decode b_lw_law 495 = .ok (.iaload, 1) := by decide +kernel
theorem d_lw_law_496 : decode b_lw_law 496 = .ok (.aload_n 3, 1) := by decide +kernel
theorem d_lw_law_497 : decode b_lw_law 497 = .ok (.invokestatic 79, 3) := by decide +kernel
theorem d_lw_law_500 : decode b_lw_law 500 = .ok (.istore 5, 2) := by decide +kernel
theorem d_lw_law_502 : decode b_lw_law 502 = .ok (.aload_n 2, 1) := by decide +kernel
theorem d_lw_law_503 : decode b_lw_law 503 = .ok (.aload_n 0, 1) := by decide +kernel
theorem d_lw_law_504 : decode b_lw_law 504 = .ok (.iload 4, 2) := by decide +kernel
theorem d_lw_law_506 : decode b_lw_law 506 = .ok (.iconst 1, 1) := by decide +kernel
theorem d_lw_law_507 : decode b_lw_law 507 = .ok (.iadd, 1) := by decide +kernel
theorem d_lw_law_508 : decode b_lw_law 508 = .ok (.iaload, 1) := by decide +kernel
theorem d_lw_law_509 : decode b_lw_law 509 = .ok (.invokevirtual 82, 3) := by decide +kernel
theorem d_lw_law_512 : decode b_lw_law 512 = .ok (.istore 6, 2) := by decide +kernel
theorem d_lw_law_514 : decode b_lw_law 514 = .ok (.aload_n 2, 1) := by decide +kernel
theorem d_lw_law_515 : decode b_lw_law 515 = .ok (.invokevirtual 68, 3) := by decide +kernel
theorem d_lw_law_518 : decode b_lw_law 518 = .ok (.iload 5, 2) := by decide +kernel
theorem d_lw_law_520 : decode b_lw_law 520 = .ok (.if_icmp .eq 5, 3) := by decide +kernel
theorem d_lw_law_523 : decode b_lw_law 523 = .ok (.iconst 0, 1) := by decide +kernel
theorem d_lw_law_524 : decode b_lw_law 524 = .ok (.ireturn, 1) := by decide +kernel
theorem d_lw_law_525 : decode b_lw_law 525 = .ok (.iload 5, 2) := by decide +kernel
theorem d_lw_law_527 : decode b_lw_law 527 = .ok (.ifCond .ne 15, 3) := by decide +kernel
theorem d_lw_law_530 : decode b_lw_law 530 = .ok (.aload_n 3, 1) := by decide +kernel
theorem d_lw_law_531 : decode b_lw_law 531 = .ok (.iconst 0, 1) := by decide +kernel
theorem d_lw_law_532 : decode b_lw_law 532 = .ok (.laload, 1) := by decide +kernel
theorem d_lw_law_533 : decode b_lw_law 533 = .ok (.iload 6, 2) := by decide +kernel
theorem d_lw_law_535 : decode b_lw_law 535 = .ok (.i2l, 1) := by decide +kernel
theorem d_lw_law_536 : decode b_lw_law 536 = .ok (.lcmp, 1) := by decide +kernel
theorem d_lw_law_537 : decode b_lw_law 537 = .ok (.ifCond .eq 5, 3) := by decide +kernel
theorem d_lw_law_540 : decode b_lw_law 540 = .ok (.iconst 0, 1) := by decide +kernel
theorem d_lw_law_541 : decode b_lw_law 541 = .ok (.ireturn, 1) := by decide +kernel
theorem d_lw_law_542 : decode b_lw_law 542 = .ok (.goto 41, 3) := by decide +kernel
theorem d_lw_law_545 : decode b_lw_law 545 = .ok (.aload_n 1, 1) := by decide +kernel
theorem d_lw_law_546 : decode b_lw_law 546 = .ok (.invokevirtual 83, 3) := by decide +kernel
theorem d_lw_law_549 : decode b_lw_law 549 = .ok (.aload_n 2, 1) := by decide +kernel
theorem d_lw_law_550 : decode b_lw_law 550 = .ok (.invokevirtual 86, 3) := by decide +kernel
theorem d_lw_law_553 : decode b_lw_law 553 = .ok (.if_icmp .eq 30, 3) := by decide +kernel
theorem d_lw_law_556 : decode b_lw_law 556 = .ok (.iconst 0, 1) := by decide +kernel
theorem d_lw_law_557 : decode b_lw_law 557 = .ok (.ireturn, 1) := by decide +kernel
theorem d_lw_law_558 : decode b_lw_law 558 = .ok (.aload_n 1, 1) := by decide +kernel
theorem d_lw_law_559 : decode b_lw_law 559 = .ok (.aload_n 0, 1) := by decide +kernel
theorem d_lw_law_560 : decode b_lw_law 560 = .ok (.iload 4, 2) := by decide +kernel
theorem d_lw_law_562 : decode b_lw_law 562 = .ok (.iconst 1, 1) := by decide +kernel
theorem d_lw_law_563 : decode b_lw_law 563 = .ok (.iadd, 1) := by decide +kernel
theorem d_lw_law_564 : decode b_lw_law 564 = .ok (.iaload, 1) := by decide +kernel
theorem d_lw_law_565 : decode b_lw_law 565 = .ok (.invokevirtual 87, 3) := by decide +kernel
theorem d_lw_law_568 : decode b_lw_law 568 = .ok (.aload_n 2, 1) := by decide +kernel
theorem d_lw_law_569 : decode b_lw_law 569 = .ok (.aload_n 0, 1) := by decide +kernel
theorem d_lw_law_570 : decode b_lw_law 570 = .ok (.iload 4, 2) := by decide +kernel
theorem d_lw_law_572 : decode b_lw_law 572 = .ok (.iconst 1, 1) := by decide +kernel
theorem d_lw_law_573 : decode b_lw_law 573 = .ok (.iadd, 1) := by decide +kernel
theorem d_lw_law_574 : decode b_lw_law 574 = .ok (.iaload, 1) := by decide +kernel
theorem d_lw_law_575 : decode b_lw_law 575 = .ok (.invokevirtual 90, 3) := by decide +kernel
theorem d_lw_law_578 : decode b_lw_law 578 = .ok (.if_icmp .eq 5, 3) := by decide +kernel
theorem d_lw_law_581 : decode b_lw_law 581 = .ok (.iconst 0, 1) := by decide +kernel
theorem d_lw_law_582 : decode b_lw_law 582 = .ok (.ireturn, 1) := by decide +kernel
theorem d_lw_law_583 : decode b_lw_law 583 = .ok (.iinc 4 6, 3) := by decide +kernel
theorem d_lw_law_586 : decode b_lw_law 586 = .ok (.goto (-563), 3) := by decide +kernel
theorem d_lw_law_589 : decode b_lw_law 589 = .ok (.iconst 1, 1) := by decide +kernel
theorem d_lw_law_590 : decode b_lw_law 590 = .ok (.ireturn, 1) := by decide +kernel
