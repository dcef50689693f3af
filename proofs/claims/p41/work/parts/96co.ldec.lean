theorem dL_law_504 : decode cL_law 504 = .ok (.iconst 2, 1) := by decide +kernel
theorem dL_law_505 : decode cL_law 505 = .ok (.iadd, 1) := by decide +kernel
theorem dL_law_506 : decode cL_law 506 = .ok (.iload 9, 2) := by decide +kernel
theorem dL_law_508 : decode cL_law 508 = .ok (.iconst 1, 1) := by decide +kernel
theorem dL_law_509 : decode cL_law 509 = .ok (.iadd, 1) := by decide +kernel
theorem dL_law_510 : decode cL_law 510 = .ok (.invokestatic 176, 3) := by decide +kernel
theorem dL_law_513 : decode cL_law 513 = .ok (.istore 11, 2) := by decide +kernel
theorem dL_law_515 : decode cL_law 515 = .ok (.aload_n 1, 1) := by decide +kernel
theorem dL_law_516 : decode cL_law 516 = .ok (.bipush 6, 2) := by decide +kernel
theorem dL_law_518 : decode cL_law 518 = .ok (.iload 11, 2) := by decide +kernel
theorem dL_law_520 : decode cL_law 520 = .ok (.iconst 0, 1) := by decide +kernel
theorem dL_law_521 : decode cL_law 521 = .ok (.iconst 0, 1) := by decide +kernel
theorem dL_law_522 : decode cL_law 522 = .ok (.iconst 0, 1) := by decide +kernel
theorem dL_law_523 : decode cL_law 523 = .ok (.invokestatic 165, 3) := by decide +kernel
theorem dL_law_526 : decode cL_law 526 = .ok (.istore 12, 2) := by decide +kernel
theorem dL_law_528 : decode cL_law 528 = .ok (.iload 12, 2) := by decide +kernel
theorem dL_law_530 : decode cL_law 530 = .ok (.iload 11, 2) := by decide +kernel
theorem dL_law_532 : decode cL_law 532 = .ok (.iload 9, 2) := by decide +kernel
theorem dL_law_534 : decode cL_law 534 = .ok (.if_icmp .ne 9, 3) := by decide +kernel
theorem dL_law_537 : decode cL_law 537 = .ok (.sipush (-2001), 3) := by decide +kernel
theorem dL_law_540 : decode cL_law 540 = .ok (.goto 6, 3) := by decide +kernel
theorem dL_law_543 : decode cL_law 543 = .ok (.sipush (-2003), 3) := by decide +kernel
theorem dL_law_546 : decode cL_law 546 = .ok (.if_icmp .eq 43, 3) := by decide +kernel
theorem dL_law_549 : decode cL_law 549 = .ok (.iload 12, 2) := by decide +kernel
theorem dL_law_551 : decode cL_law 551 = .ok (.iload 10, 2) := by decide +kernel
theorem dL_law_553 : decode cL_law 553 = .ok (.iconst 1, 1) := by decide +kernel
theorem dL_law_554 : decode cL_law 554 = .ok (.iadd, 1) := by decide +kernel
theorem dL_law_555 : decode cL_law 555 = .ok (.if_icmp .ne 38, 3) := by decide +kernel
theorem dL_law_558 : decode cL_law 558 = .ok (.aload_n 1, 1) := by decide +kernel
theorem dL_law_559 : decode cL_law 559 = .ok (.bipush 11, 2) := by decide +kernel
theorem dL_law_561 : decode cL_law 561 = .ok (.iload 10, 2) := by decide +kernel
theorem dL_law_563 : decode cL_law 563 = .ok (.iconst 0, 1) := by decide +kernel
theorem dL_law_564 : decode cL_law 564 = .ok (.invokestatic 136, 3) := by decide +kernel
theorem dL_law_567 : decode cL_law 567 = .ok (.iload 11, 2) := by decide +kernel
theorem dL_law_569 : decode cL_law 569 = .ok (.if_icmp .ne 24, 3) := by decide +kernel
theorem dL_law_572 : decode cL_law 572 = .ok (.aload_n 1, 1) := by decide +kernel
theorem dL_law_573 : decode cL_law 573 = .ok (.bipush 6, 2) := by decide +kernel
theorem dL_law_575 : decode cL_law 575 = .ok (.iload 11, 2) := by decide +kernel
theorem dL_law_577 : decode cL_law 577 = .ok (.iconst 0, 1) := by decide +kernel
theorem dL_law_578 : decode cL_law 578 = .ok (.iconst 0, 1) := by decide +kernel
theorem dL_law_579 : decode cL_law 579 = .ok (.iconst 0, 1) := by decide +kernel
theorem dL_law_580 : decode cL_law 580 = .ok (.invokestatic 165, 3) := by decide +kernel
theorem dL_law_583 : decode cL_law 583 = .ok (.sipush (-2003), 3) := by decide +kernel
theorem dL_law_586 : decode cL_law 586 = .ok (.if_icmp .ne 7, 3) := by decide +kernel
theorem dL_law_589 : decode cL_law 589 = .ok (.iconst 1, 1) := by decide +kernel
theorem dL_law_590 : decode cL_law 590 = .ok (.goto 4, 3) := by decide +kernel
theorem dL_law_593 : decode cL_law 593 = .ok (.iconst 0, 1) := by decide +kernel
theorem dL_law_594 : decode cL_law 594 = .ok (.istore 4, 2) := by decide +kernel
theorem dL_law_596 : decode cL_law 596 = .ok (.goto 669, 3) := by decide +kernel
theorem dL_law_599 : decode cL_law 599 = .ok (.iload 7, 2) := by decide +kernel
theorem dL_law_601 : decode cL_law 601 = .ok (.bipush 6, 2) := by decide +kernel
theorem dL_law_603 : decode cL_law 603 = .ok (.if_icmp .ne 124, 3) := by decide +kernel
theorem dL_law_606 : decode cL_law 606 = .ok (.aload_n 1, 1) := by decide +kernel
theorem dL_law_607 : decode cL_law 607 = .ok (.bipush 11, 2) := by decide +kernel
theorem dL_law_609 : decode cL_law 609 = .ok (.iconst 0, 1) := by decide +kernel
theorem dL_law_610 : decode cL_law 610 = .ok (.iconst 0, 1) := by decide +kernel
theorem dL_law_611 : decode cL_law 611 = .ok (.invokestatic 136, 3) := by decide +kernel
theorem dL_law_614 : decode cL_law 614 = .ok (.istore 10, 2) := by decide +kernel
theorem dL_law_616 : decode cL_law 616 = .ok (.aload_n 0, 1) := by decide +kernel
theorem dL_law_617 : decode cL_law 617 = .ok (.iload 6, 2) := by decide +kernel
