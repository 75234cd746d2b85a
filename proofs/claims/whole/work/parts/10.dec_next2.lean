theorem dX10_next_480 : decode cX10_next 480 = .ok (.putfield 124, 3) := by decide +kernel
theorem dX10_next_483 : decode cX10_next 483 = .ok (.aload_n 0, 1) := by decide +kernel
theorem dX10_next_484 : decode cX10_next 484 = .ok (.aload_n 0, 1) := by decide +kernel
theorem dX10_next_485 : decode cX10_next 485 = .ok (.getfield 124, 3) := by decide +kernel
theorem dX10_next_488 : decode cX10_next 488 = .ok (.lconst 1, 1) := by decide +kernel
theorem dX10_next_489 : decode cX10_next 489 = .ok (.ladd, 1) := by decide +kernel
theorem dX10_next_490 : decode cX10_next 490 = .ok (.putfield 114, 3) := by decide +kernel
theorem dX10_next_493 : decode cX10_next 493 = .ok (.aload_n 0, 1) := by decide +kernel
theorem dX10_next_494 : decode cX10_next 494 = .ok (.iconst 1, 1) := by decide +kernel
theorem dX10_next_495 : decode cX10_next 495 = .ok (.putfield 106, 3) := by decide +kernel
theorem dX10_next_498 : decode cX10_next 498 = .ok (.aload_n 0, 1) := by decide +kernel
theorem dX10_next_499 : decode cX10_next 499 = .ok (.iload 14, 2) := by decide +kernel
theorem dX10_next_501 : decode cX10_next 501 = .ok (.aload_n 0, 1) := by decide +kernel
theorem dX10_next_502 : decode cX10_next 502 = .ok (.getfield 67, 3) := by decide +kernel
theorem dX10_next_505 : decode cX10_next 505 = .ok (.if_icmp .ne 7, 3) := by decide +kernel
theorem dX10_next_508 : decode cX10_next 508 = .ok (.iconst 1, 1) := by decide +kernel
theorem dX10_next_509 : decode cX10_next 509 = .ok (.goto 4, 3) := by decide +kernel
theorem dX10_next_512 : decode cX10_next 512 = .ok (.iconst 0, 1) := by decide +kernel
theorem dX10_next_513 : decode cX10_next 513 = .ok (.putfield 157, 3) := by decide +kernel
theorem dX10_next_516 : decode cX10_next 516 = .ok (.aload_n 0, 1) := by decide +kernel
theorem dX10_next_517 : decode cX10_next 517 = .ok (.getfield 145, 3) := by decide +kernel
theorem dX10_next_520 : decode cX10_next 520 = .ok (.ifCond .le 30, 3) := by decide +kernel
theorem dX10_next_523 : decode cX10_next 523 = .ok (.aload_n 0, 1) := by decide +kernel
theorem dX10_next_524 : decode cX10_next 524 = .ok (.getfield 34, 3) := by decide +kernel
theorem dX10_next_527 : decode cX10_next 527 = .ok (.aload_n 0, 1) := by decide +kernel
theorem dX10_next_528 : decode cX10_next 528 = .ok (.getfield 145, 3) := by decide +kernel
theorem dX10_next_531 : decode cX10_next 531 = .ok (.iload 9, 2) := by decide +kernel
theorem dX10_next_533 : decode cX10_next 533 = .ok (.bipush 32, 2) := by decide +kernel
theorem dX10_next_535 : decode cX10_next 535 = .ok (.if_icmp .ne 10, 3) := by decide +kernel
theorem dX10_next_538 : decode cX10_next 538 = .ok (.aload_n 0, 1) := by decide +kernel
theorem dX10_next_539 : decode cX10_next 539 = .ok (.getfield 124, 3) := by decide +kernel
theorem dX10_next_542 : decode cX10_next 542 = .ok (.goto 7, 3) := by decide +kernel
theorem dX10_next_545 : decode cX10_next 545 = .ok (.aload_n 0, 1) := by decide +kernel
theorem dX10_next_546 : decode cX10_next 546 = .ok (.getfield 175, 3) := by decide +kernel
theorem dX10_next_549 : decode cX10_next 549 = .ok (.lastore, 1) := by decide +kernel
theorem dX10_next_550 : decode cX10_next 550 = .ok (.iload 9, 2) := by decide +kernel
theorem dX10_next_552 : decode cX10_next 552 = .ok (.bipush 40, 2) := by decide +kernel
theorem dX10_next_554 : decode cX10_next 554 = .ok (.if_icmp .lt 26, 3) := by decide +kernel
theorem dX10_next_557 : decode cX10_next 557 = .ok (.iload 9, 2) := by decide +kernel
theorem dX10_next_559 : decode cX10_next 559 = .ok (.bipush 43, 2) := by decide +kernel
theorem dX10_next_561 : decode cX10_next 561 = .ok (.if_icmp .gt 19, 3) := by decide +kernel
theorem dX10_next_564 : decode cX10_next 564 = .ok (.aload_n 0, 1) := by decide +kernel
theorem dX10_next_565 : decode cX10_next 565 = .ok (.aload_n 0, 1) := by decide +kernel
theorem dX10_next_566 : decode cX10_next 566 = .ok (.getfield 163, 3) := by decide +kernel
theorem dX10_next_569 : decode cX10_next 569 = .ok (.ifCond .eq 7, 3) := by decide +kernel
theorem dX10_next_572 : decode cX10_next 572 = .ok (.iconst 1, 1) := by decide +kernel
theorem dX10_next_573 : decode cX10_next 573 = .ok (.goto 4, 3) := by decide +kernel
theorem dX10_next_576 : decode cX10_next 576 = .ok (.iconst 0, 1) := by decide +kernel
theorem dX10_next_577 : decode cX10_next 577 = .ok (.invokevirtual 211, 3) := by decide +kernel
theorem dX10_next_580 : decode cX10_next 580 = .ok (.iload 9, 2) := by decide +kernel
theorem dX10_next_582 : decode cX10_next 582 = .ok (.bipush 44, 2) := by decide +kernel
theorem dX10_next_584 : decode cX10_next 584 = .ok (.if_icmp .eq 10, 3) := by decide +kernel
theorem dX10_next_587 : decode cX10_next 587 = .ok (.iload 9, 2) := by decide +kernel
theorem dX10_next_589 : decode cX10_next 589 = .ok (.bipush 45, 2) := by decide +kernel
theorem dX10_next_591 : decode cX10_next 591 = .ok (.if_icmp .ne 18, 3) := by decide +kernel
theorem dX10_next_594 : decode cX10_next 594 = .ok (.iload 10, 2) := by decide +kernel
theorem dX10_next_596 : decode cX10_next 596 = .ok (.bipush 15, 2) := by decide +kernel
theorem dX10_next_598 : decode cX10_next 598 = .ok (.if_icmp .ne 11, 3) := by decide +kernel
theorem dX10_next_601 : decode cX10_next 601 = .ok (.aload_n 0, 1) := by decide +kernel
theorem dX10_next_602 : decode cX10_next 602 = .ok (.iconst 2, 1) := by decide +kernel
theorem dX10_next_603 : decode cX10_next 603 = .ok (.invokevirtual 211, 3) := by decide +kernel
theorem dX10_next_606 : decode cX10_next 606 = .ok (.goto 27, 3) := by decide +kernel
theorem dX10_next_609 : decode cX10_next 609 = .ok (.iload 9, 2) := by decide +kernel
theorem dX10_next_611 : decode cX10_next 611 = .ok (.bipush 45, 2) := by decide +kernel
theorem dX10_next_613 : decode cX10_next 613 = .ok (.if_icmp .ne 20, 3) := by decide +kernel
theorem dX10_next_616 : decode cX10_next 616 = .ok (.iload 11, 2) := by decide +kernel
theorem dX10_next_618 : decode cX10_next 618 = .ok (.bipush 15, 2) := by decide +kernel
theorem dX10_next_620 : decode cX10_next 620 = .ok (.if_icmp .ne 13, 3) := by decide +kernel
theorem dX10_next_623 : decode cX10_next 623 = .ok (.iload 10, 2) := by decide +kernel
theorem dX10_next_625 : decode cX10_next 625 = .ok (.ifCond .ne 8, 3) := by decide +kernel
theorem dX10_next_628 : decode cX10_next 628 = .ok (.aload_n 0, 1) := by decide +kernel
theorem dX10_next_629 : decode cX10_next 629 = .ok (.iconst 3, 1) := by decide +kernel
theorem dX10_next_630 : decode cX10_next 630 = .ok (.invokevirtual 211, 3) := by decide +kernel
theorem dX10_next_633 : decode cX10_next 633 = .ok (.return_, 1) := by decide +kernel
