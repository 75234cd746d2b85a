theorem dX10_does_459 : decode cX10_does 459 = .ok (.iconst 0, 1) := by decide +kernel
theorem dX10_does_460 : decode cX10_does 460 = .ok (.invokevirtual 215, 3) := by decide +kernel
theorem dX10_does_463 : decode cX10_does 463 = .ok (.goto 28, 3) := by decide +kernel
theorem dX10_does_466 : decode cX10_does 466 = .ok (.iload_n 2, 1) := by decide +kernel
theorem dX10_does_467 : decode cX10_does 467 = .ok (.bipush 49, 2) := by decide +kernel
theorem dX10_does_469 : decode cX10_does 469 = .ok (.if_icmp .ne 17, 3) := by decide +kernel
theorem dX10_does_472 : decode cX10_does 472 = .ok (.aload_n 0, 1) := by decide +kernel
theorem dX10_does_473 : decode cX10_does 473 = .ok (.iconst 1, 1) := by decide +kernel
theorem dX10_does_474 : decode cX10_does 474 = .ok (.putfield 151, 3) := by decide +kernel
theorem dX10_does_477 : decode cX10_does 477 = .ok (.aload_n 0, 1) := by decide +kernel
theorem dX10_does_478 : decode cX10_does 478 = .ok (.iload 7, 2) := by decide +kernel
theorem dX10_does_480 : decode cX10_does 480 = .ok (.putfield 154, 3) := by decide +kernel
theorem dX10_does_483 : decode cX10_does 483 = .ok (.goto 8, 3) := by decide +kernel
theorem dX10_does_486 : decode cX10_does 486 = .ok (.aload_n 0, 1) := by decide +kernel
theorem dX10_does_487 : decode cX10_does 487 = .ok (.iconst 1, 1) := by decide +kernel
theorem dX10_does_488 : decode cX10_does 488 = .ok (.invokevirtual 215, 3) := by decide +kernel
theorem dX10_does_491 : decode cX10_does 491 = .ok (.return_, 1) := by decide +kernel
