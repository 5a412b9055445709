/-! DECODED: the law -/
theorem fW_law_433 : decode (m_cc M_W_law) 433 = .ok (.goto 749, 3) := by decide +kernel
theorem fW_law_436 : decode (m_cc M_W_law) 436 = .ok (.aload_n 1, 1) := by decide +kernel
theorem fW_law_437 : decode (m_cc M_W_law) 437 = .ok (.aload_n 0, 1) := by decide +kernel
theorem fW_law_438 : decode (m_cc M_W_law) 438 = .ok (.iload 4, 2) := by decide +kernel
theorem fW_law_440 : decode (m_cc M_W_law) 440 = .ok (.iconst 1, 1) := by decide +kernel
theorem fW_law_441 : decode (m_cc M_W_law) 441 = .ok (.iadd, 1) := by decide +kernel
theorem fW_law_442 : decode (m_cc M_W_law) 442 = .ok (.iaload, 1) := by decide +kernel
theorem fW_law_443 : decode (m_cc M_W_law) 443 = .ok (.aload_n 3, 1) := by decide +kernel
theorem fW_law_444 : decode (m_cc M_W_law) 444 = .ok (.invokestatic 94, 3) := by decide +kernel
theorem fW_law_447 : decode (m_cc M_W_law) 447 = .ok (.istore 5, 2) := by decide +kernel
theorem fW_law_449 : decode (m_cc M_W_law) 449 = .ok (.aload_n 2, 1) := by decide +kernel
theorem fW_law_450 : decode (m_cc M_W_law) 450 = .ok (.aload_n 0, 1) := by decide +kernel
theorem fW_law_451 : decode (m_cc M_W_law) 451 = .ok (.iload 4, 2) := by decide +kernel
theorem fW_law_453 : decode (m_cc M_W_law) 453 = .ok (.iconst 1, 1) := by decide +kernel
theorem fW_law_454 : decode (m_cc M_W_law) 454 = .ok (.iadd, 1) := by decide +kernel
theorem fW_law_455 : decode (m_cc M_W_law) 455 = .ok (.iaload, 1) := by decide +kernel
theorem fW_law_456 : decode (m_cc M_W_law) 456 = .ok (.invokevirtual 97, 3) := by decide +kernel
theorem fW_law_459 : decode (m_cc M_W_law) 459 = .ok (.istore 6, 2) := by decide +kernel
theorem fW_law_461 : decode (m_cc M_W_law) 461 = .ok (.aload_n 2, 1) := by decide +kernel
theorem fW_law_462 : decode (m_cc M_W_law) 462 = .ok (.invokevirtual 80, 3) := by decide +kernel
theorem fW_law_465 : decode (m_cc M_W_law) 465 = .ok (.iload 5, 2) := by decide +kernel
theorem fW_law_467 : decode (m_cc M_W_law) 467 = .ok (.if_icmp .eq 5, 3) := by decide +kernel
theorem fW_law_470 : decode (m_cc M_W_law) 470 = .ok (.iconst 0, 1) := by decide +kernel
theorem fW_law_471 : decode (m_cc M_W_law) 471 = .ok (.ireturn, 1) := by decide +kernel
theorem fW_law_472 : decode (m_cc M_W_law) 472 = .ok (.iload 5, 2) := by decide +kernel
theorem fW_law_474 : decode (m_cc M_W_law) 474 = .ok (.ifCond .ne 15, 3) := by decide +kernel
theorem fW_law_477 : decode (m_cc M_W_law) 477 = .ok (.aload_n 3, 1) := by decide +kernel
theorem fW_law_478 : decode (m_cc M_W_law) 478 = .ok (.iconst 0, 1) := by decide +kernel
theorem fW_law_479 : decode (m_cc M_W_law) 479 = .ok (.laload, 1) := by decide +kernel
theorem fW_law_480 : decode (m_cc M_W_law) 480 = .ok (.iload 6, 2) := by decide +kernel
theorem fW_law_482 : decode (m_cc M_W_law) 482 = .ok (.i2l, 1) := by decide +kernel
theorem fW_law_483 : decode (m_cc M_W_law) 483 = .ok (.lcmp, 1) := by decide +kernel
theorem fW_law_484 : decode (m_cc M_W_law) 484 = .ok (.ifCond .eq 5, 3) := by decide +kernel
theorem fW_law_487 : decode (m_cc M_W_law) 487 = .ok (.iconst 0, 1) := by decide +kernel
theorem fW_law_488 : decode (m_cc M_W_law) 488 = .ok (.ireturn, 1) := by decide +kernel
theorem fW_law_489 : decode (m_cc M_W_law) 489 = .ok (.goto 693, 3) := by decide +kernel
theorem fW_law_492 : decode (m_cc M_W_law) 492 = .ok (.aload_n 1, 1) := by decide +kernel
theorem fW_law_493 : decode (m_cc M_W_law) 493 = .ok (.aload_n 0, 1) := by decide +kernel
theorem fW_law_494 : decode (m_cc M_W_law) 494 = .ok (.iload 4, 2) := by decide +kernel
theorem fW_law_496 : decode (m_cc M_W_law) 496 = .ok (.iconst 1, 1) := by decide +kernel
theorem fW_law_497 : decode (m_cc M_W_law) 497 = .ok (.iadd, 1) := by decide +kernel
theorem fW_law_498 : decode (m_cc M_W_law) 498 = .ok (.iaload, 1) := by decide +kernel
theorem fW_law_499 : decode (m_cc M_W_law) 499 = .ok (.aload_n 0, 1) := by decide +kernel
theorem fW_law_500 : decode (m_cc M_W_law) 500 = .ok (.iload 4, 2) := by decide +kernel
theorem fW_law_502 : decode (m_cc M_W_law) 502 = .ok (.iconst 2, 1) := by decide +kernel
theorem fW_law_503 : decode (m_cc M_W_law) 503 = .ok (.iadd, 1) := by decide +kernel
theorem fW_law_504 : decode (m_cc M_W_law) 504 = .ok (.iaload, 1) := by decide +kernel
theorem fW_law_505 : decode (m_cc M_W_law) 505 = .ok (.aload_n 0, 1) := by decide +kernel
theorem fW_law_506 : decode (m_cc M_W_law) 506 = .ok (.iload 4, 2) := by decide +kernel
theorem fW_law_508 : decode (m_cc M_W_law) 508 = .ok (.iconst 3, 1) := by decide +kernel
theorem fW_law_509 : decode (m_cc M_W_law) 509 = .ok (.iadd, 1) := by decide +kernel
theorem fW_law_510 : decode (m_cc M_W_law) 510 = .ok (.iaload, 1) := by decide +kernel
theorem fW_law_511 : decode (m_cc M_W_law) 511 = .ok (.aload_n 3, 1) := by decide +kernel
theorem fW_law_512 : decode (m_cc M_W_law) 512 = .ok (.invokestatic 98, 3) := by decide +kernel
theorem fW_law_515 : decode (m_cc M_W_law) 515 = .ok (.istore 5, 2) := by decide +kernel
theorem fW_law_517 : decode (m_cc M_W_law) 517 = .ok (.aload_n 2, 1) := by decide +kernel
theorem fW_law_518 : decode (m_cc M_W_law) 518 = .ok (.aload_n 0, 1) := by decide +kernel
theorem fW_law_519 : decode (m_cc M_W_law) 519 = .ok (.iload 4, 2) := by decide +kernel
theorem fW_law_521 : decode (m_cc M_W_law) 521 = .ok (.iconst 1, 1) := by decide +kernel
theorem fW_law_522 : decode (m_cc M_W_law) 522 = .ok (.iadd, 1) := by decide +kernel
theorem fW_law_523 : decode (m_cc M_W_law) 523 = .ok (.iaload, 1) := by decide +kernel
theorem fW_law_524 : decode (m_cc M_W_law) 524 = .ok (.aload_n 0, 1) := by decide +kernel
theorem fW_law_525 : decode (m_cc M_W_law) 525 = .ok (.iload 4, 2) := by decide +kernel
theorem fW_law_527 : decode (m_cc M_W_law) 527 = .ok (.iconst 2, 1) := by decide +kernel
theorem fW_law_528 : decode (m_cc M_W_law) 528 = .ok (.iadd, 1) := by decide +kernel
theorem fW_law_529 : decode (m_cc M_W_law) 529 = .ok (.iaload, 1) := by decide +kernel
theorem fW_law_530 : decode (m_cc M_W_law) 530 = .ok (.aload_n 0, 1) := by decide +kernel
theorem fW_law_531 : decode (m_cc M_W_law) 531 = .ok (.iload 4, 2) := by decide +kernel
theorem fW_law_533 : decode (m_cc M_W_law) 533 = .ok (.iconst 3, 1) := by decide +kernel
theorem fW_law_534 : decode (m_cc M_W_law) 534 = .ok (.iadd, 1) := by decide +kernel
theorem fW_law_535 : decode (m_cc M_W_law) 535 = .ok (.iaload, 1) := by decide +kernel
theorem fW_law_536 : decode (m_cc M_W_law) 536 = .ok (.invokevirtual 101, 3) := by decide +kernel
theorem fW_law_539 : decode (m_cc M_W_law) 539 = .ok (.istore 6, 2) := by decide +kernel
theorem fW_law_541 : decode (m_cc M_W_law) 541 = .ok (.aload_n 2, 1) := by decide +kernel
theorem fW_law_542 : decode (m_cc M_W_law) 542 = .ok (.invokevirtual 80, 3) := by decide +kernel
theorem fW_law_545 : decode (m_cc M_W_law) 545 = .ok (.iload 5, 2) := by decide +kernel
theorem fW_law_547 : decode (m_cc M_W_law) 547 = .ok (.if_icmp .eq 5, 3) := by decide +kernel
theorem fW_law_550 : decode (m_cc M_W_law) 550 = .ok (.iconst 0, 1) := by decide +kernel
theorem fW_law_551 : decode (m_cc M_W_law) 551 = .ok (.ireturn, 1) := by decide +kernel
theorem fW_law_552 : decode (m_cc M_W_law) 552 = .ok (.iload 5, 2) := by decide +kernel
theorem fW_law_554 : decode (m_cc M_W_law) 554 = .ok (.ifCond .ne 22, 3) := by decide +kernel
theorem fW_law_557 : decode (m_cc M_W_law) 557 = .ok (.aload_n 3, 1) := by decide +kernel
theorem fW_law_558 : decode (m_cc M_W_law) 558 = .ok (.iconst 0, 1) := by decide +kernel
theorem fW_law_559 : decode (m_cc M_W_law) 559 = .ok (.laload, 1) := by decide +kernel
theorem fW_law_560 : decode (m_cc M_W_law) 560 = .ok (.iload 6, 2) := by decide +kernel
theorem fW_law_562 : decode (m_cc M_W_law) 562 = .ok (.ifCond .eq 7, 3) := by decide +kernel
theorem fW_law_565 : decode (m_cc M_W_law) 565 = .ok (.lconst 1, 1) := by decide +kernel
theorem fW_law_566 : decode (m_cc M_W_law) 566 = .ok (.goto 4, 3) := by decide +kernel
theorem fW_law_569 : decode (m_cc M_W_law) 569 = .ok (.lconst 0, 1) := by decide +kernel
theorem fW_law_570 : decode (m_cc M_W_law) 570 = .ok (.lcmp, 1) := by decide +kernel
theorem fW_law_571 : decode (m_cc M_W_law) 571 = .ok (.ifCond .eq 5, 3) := by decide +kernel
theorem fW_law_574 : decode (m_cc M_W_law) 574 = .ok (.iconst 0, 1) := by decide +kernel
theorem fW_law_575 : decode (m_cc M_W_law) 575 = .ok (.ireturn, 1) := by decide +kernel
theorem fW_law_576 : decode (m_cc M_W_law) 576 = .ok (.goto 606, 3) := by decide +kernel
theorem fW_law_579 : decode (m_cc M_W_law) 579 = .ok (.aload_n 1, 1) := by decide +kernel
theorem fW_law_580 : decode (m_cc M_W_law) 580 = .ok (.aload_n 0, 1) := by decide +kernel
theorem fW_law_581 : decode (m_cc M_W_law) 581 = .ok (.iload 4, 2) := by decide +kernel
theorem fW_law_583 : decode (m_cc M_W_law) 583 = .ok (.iconst 1, 1) := by decide +kernel
theorem fW_law_584 : decode (m_cc M_W_law) 584 = .ok (.iadd, 1) := by decide +kernel
theorem fW_law_585 : decode (m_cc M_W_law) 585 = .ok (.iaload, 1) := by decide +kernel
theorem fW_law_586 : decode (m_cc M_W_law) 586 = .ok (.aload_n 0, 1) := by decide +kernel
theorem fW_law_587 : decode (m_cc M_W_law) 587 = .ok (.iload 4, 2) := by decide +kernel
theorem fW_law_589 : decode (m_cc M_W_law) 589 = .ok (.iconst 2, 1) := by decide +kernel
theorem fW_law_590 : decode (m_cc M_W_law) 590 = .ok (.iadd, 1) := by decide +kernel
theorem fW_law_591 : decode (m_cc M_W_law) 591 = .ok (.iaload, 1) := by decide +kernel
theorem fW_law_592 : decode (m_cc M_W_law) 592 = .ok (.aload_n 3, 1) := by decide +kernel
theorem fW_law_593 : decode (m_cc M_W_law) 593 = .ok (.invokestatic 102, 3) := by decide +kernel
theorem fW_law_596 : decode (m_cc M_W_law) 596 = .ok (.istore 5, 2) := by decide +kernel
theorem fW_law_598 : decode (m_cc M_W_law) 598 = .ok (.aload_n 2, 1) := by decide +kernel
theorem fW_law_599 : decode (m_cc M_W_law) 599 = .ok (.aload_n 0, 1) := by decide +kernel
theorem fW_law_600 : decode (m_cc M_W_law) 600 = .ok (.iload 4, 2) := by decide +kernel
theorem fW_law_602 : decode (m_cc M_W_law) 602 = .ok (.iconst 1, 1) := by decide +kernel
theorem fW_law_603 : decode (m_cc M_W_law) 603 = .ok (.iadd, 1) := by decide +kernel
theorem fW_law_604 : decode (m_cc M_W_law) 604 = .ok (.iaload, 1) := by decide +kernel
theorem fW_law_605 : decode (m_cc M_W_law) 605 = .ok (.aload_n 0, 1) := by decide +kernel
theorem fW_law_606 : decode (m_cc M_W_law) 606 = .ok (.iload 4, 2) := by decide +kernel
theorem fW_law_608 : decode (m_cc M_W_law) 608 = .ok (.iconst 2, 1) := by decide +kernel
theorem fW_law_609 : decode (m_cc M_W_law) 609 = .ok (.iadd, 1) := by decide +kernel
theorem fW_law_610 : decode (m_cc M_W_law) 610 = .ok (.iaload, 1) := by decide +kernel
theorem fW_law_611 : decode (m_cc M_W_law) 611 = .ok (.invokevirtual 104, 3) := by decide +kernel
theorem fW_law_614 : decode (m_cc M_W_law) 614 = .ok (.istore 6, 2) := by decide +kernel
theorem fW_law_616 : decode (m_cc M_W_law) 616 = .ok (.aload_n 2, 1) := by decide +kernel
