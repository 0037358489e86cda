theorem dL_holds_492 : decode cL_holds 492 = .ok (.iconst 5, 1) := by decide +kernel
theorem dL_holds_493 : decode cL_holds 493 = .ok (.invokevirtual 18, 3) := by decide +kernel
theorem dL_holds_496 : decode cL_holds 496 = .ok (.if_icmp .ne 39, 3) := by decide +kernel
theorem dL_holds_499 : decode cL_holds 499 = .ok (.iload_n 3, 1) := by decide +kernel
theorem dL_holds_500 : decode cL_holds 500 = .ok (.ifCond .le 7, 3) := by decide +kernel
theorem dL_holds_503 : decode cL_holds 503 = .ok (.iconst 1, 1) := by decide +kernel
theorem dL_holds_504 : decode cL_holds 504 = .ok (.goto 4, 3) := by decide +kernel
theorem dL_holds_507 : decode cL_holds 507 = .ok (.iconst 0, 1) := by decide +kernel
theorem dL_holds_508 : decode cL_holds 508 = .ok (.aload_n 0, 1) := by decide +kernel
theorem dL_holds_509 : decode cL_holds 509 = .ok (.aload_n 0, 1) := by decide +kernel
theorem dL_holds_510 : decode cL_holds 510 = .ok (.iconst 0, 1) := by decide +kernel
theorem dL_holds_511 : decode cL_holds 511 = .ok (.invokevirtual 62, 3) := by decide +kernel
theorem dL_holds_514 : decode cL_holds 514 = .ok (.bipush 8, 2) := by decide +kernel
theorem dL_holds_516 : decode cL_holds 516 = .ok (.invokevirtual 18, 3) := by decide +kernel
theorem dL_holds_519 : decode cL_holds 519 = .ok (.iconst 1, 1) := by decide +kernel
theorem dL_holds_520 : decode cL_holds 520 = .ok (.if_icmp .ne 7, 3) := by decide +kernel
theorem dL_holds_523 : decode cL_holds 523 = .ok (.iconst 1, 1) := by decide +kernel
theorem dL_holds_524 : decode cL_holds 524 = .ok (.goto 4, 3) := by decide +kernel
theorem dL_holds_527 : decode cL_holds 527 = .ok (.iconst 0, 1) := by decide +kernel
theorem dL_holds_528 : decode cL_holds 528 = .ok (.if_icmp .ne 7, 3) := by decide +kernel
theorem dL_holds_531 : decode cL_holds 531 = .ok (.iconst 1, 1) := by decide +kernel
theorem dL_holds_532 : decode cL_holds 532 = .ok (.goto 4, 3) := by decide +kernel
theorem dL_holds_535 : decode cL_holds 535 = .ok (.iconst 0, 1) := by decide +kernel
theorem dL_holds_536 : decode cL_holds 536 = .ok (.istore 6, 2) := by decide +kernel
theorem dL_holds_538 : decode cL_holds 538 = .ok (.iload 5, 2) := by decide +kernel
theorem dL_holds_540 : decode cL_holds 540 = .ok (.ifCond .eq 72, 3) := by decide +kernel
theorem dL_holds_543 : decode cL_holds 543 = .ok (.iload 6, 2) := by decide +kernel
theorem dL_holds_545 : decode cL_holds 545 = .ok (.ifCond .eq 67, 3) := by decide +kernel
theorem dL_holds_548 : decode cL_holds 548 = .ok (.aload_n 0, 1) := by decide +kernel
theorem dL_holds_549 : decode cL_holds 549 = .ok (.iconst 2, 1) := by decide +kernel
theorem dL_holds_550 : decode cL_holds 550 = .ok (.invokevirtual 12, 3) := by decide +kernel
theorem dL_holds_553 : decode cL_holds 553 = .ok (.iload_n 2, 1) := by decide +kernel
theorem dL_holds_554 : decode cL_holds 554 = .ok (.if_icmp .ne 58, 3) := by decide +kernel
theorem dL_holds_557 : decode cL_holds 557 = .ok (.aload_n 0, 1) := by decide +kernel
theorem dL_holds_558 : decode cL_holds 558 = .ok (.iconst 3, 1) := by decide +kernel
theorem dL_holds_559 : decode cL_holds 559 = .ok (.invokevirtual 12, 3) := by decide +kernel
theorem dL_holds_562 : decode cL_holds 562 = .ok (.iload_n 3, 1) := by decide +kernel
theorem dL_holds_563 : decode cL_holds 563 = .ok (.if_icmp .ne 49, 3) := by decide +kernel
theorem dL_holds_566 : decode cL_holds 566 = .ok (.aload_n 0, 1) := by decide +kernel
theorem dL_holds_567 : decode cL_holds 567 = .ok (.iconst 4, 1) := by decide +kernel
theorem dL_holds_568 : decode cL_holds 568 = .ok (.invokevirtual 12, 3) := by decide +kernel
theorem dL_holds_571 : decode cL_holds 571 = .ok (.iload 4, 2) := by decide +kernel
theorem dL_holds_573 : decode cL_holds 573 = .ok (.if_icmp .ne 39, 3) := by decide +kernel
theorem dL_holds_576 : decode cL_holds 576 = .ok (.aload_n 0, 1) := by decide +kernel
theorem dL_holds_577 : decode cL_holds 577 = .ok (.iconst 5, 1) := by decide +kernel
theorem dL_holds_578 : decode cL_holds 578 = .ok (.invokevirtual 12, 3) := by decide +kernel
theorem dL_holds_581 : decode cL_holds 581 = .ok (.ifCond .ge 7, 3) := by decide +kernel
theorem dL_holds_584 : decode cL_holds 584 = .ok (.iconst 1, 1) := by decide +kernel
theorem dL_holds_585 : decode cL_holds 585 = .ok (.goto 4, 3) := by decide +kernel
theorem dL_holds_588 : decode cL_holds 588 = .ok (.iconst 0, 1) := by decide +kernel
theorem dL_holds_589 : decode cL_holds 589 = .ok (.iload 4, 2) := by decide +kernel
theorem dL_holds_591 : decode cL_holds 591 = .ok (.aload_n 0, 1) := by decide +kernel
theorem dL_holds_592 : decode cL_holds 592 = .ok (.bipush 6, 2) := by decide +kernel
theorem dL_holds_594 : decode cL_holds 594 = .ok (.invokevirtual 12, 3) := by decide +kernel
theorem dL_holds_597 : decode cL_holds 597 = .ok (.if_icmp .le 7, 3) := by decide +kernel
theorem dL_holds_600 : decode cL_holds 600 = .ok (.iconst 1, 1) := by decide +kernel
theorem dL_holds_601 : decode cL_holds 601 = .ok (.goto 4, 3) := by decide +kernel
theorem dL_holds_604 : decode cL_holds 604 = .ok (.iconst 0, 1) := by decide +kernel
theorem dL_holds_605 : decode cL_holds 605 = .ok (.if_icmp .ne 7, 3) := by decide +kernel
theorem dL_holds_608 : decode cL_holds 608 = .ok (.iconst 1, 1) := by decide +kernel
theorem dL_holds_609 : decode cL_holds 609 = .ok (.goto 4, 3) := by decide +kernel
theorem dL_holds_612 : decode cL_holds 612 = .ok (.iconst 0, 1) := by decide +kernel
theorem dL_holds_613 : decode cL_holds 613 = .ok (.ireturn, 1) := by decide +kernel
