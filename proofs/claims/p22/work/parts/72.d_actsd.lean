theorem dL_acts_445 : decode cL_acts 445 = .ok (.goto 4, 3) := by decide +kernel
theorem dL_acts_448 : decode cL_acts 448 = .ok (.iconst 0, 1) := by decide +kernel
theorem dL_acts_449 : decode cL_acts 449 = .ok (.istore 13, 2) := by decide +kernel
theorem dL_acts_451 : decode cL_acts 451 = .ok (.iload 13, 2) := by decide +kernel
theorem dL_acts_453 : decode cL_acts 453 = .ok (.ifCond .eq 48, 3) := by decide +kernel
theorem dL_acts_456 : decode cL_acts 456 = .ok (.aload_n 0, 1) := by decide +kernel
theorem dL_acts_457 : decode cL_acts 457 = .ok (.iload 6, 2) := by decide +kernel
theorem dL_acts_459 : decode cL_acts 459 = .ok (.iconst 0, 1) := by decide +kernel
theorem dL_acts_460 : decode cL_acts 460 = .ok (.invokestatic 77, 3) := by decide +kernel
theorem dL_acts_463 : decode cL_acts 463 = .ok (.iload 12, 2) := by decide +kernel
theorem dL_acts_465 : decode cL_acts 465 = .ok (.if_icmp .ne 88, 3) := by decide +kernel
theorem dL_acts_468 : decode cL_acts 468 = .ok (.iload 12, 2) := by decide +kernel
theorem dL_acts_470 : decode cL_acts 470 = .ok (.iload 11, 2) := by decide +kernel
theorem dL_acts_472 : decode cL_acts 472 = .ok (.if_icmp .eq 81, 3) := by decide +kernel
theorem dL_acts_475 : decode cL_acts 475 = .ok (.aload_n 0, 1) := by decide +kernel
theorem dL_acts_476 : decode cL_acts 476 = .ok (.iload 11, 2) := by decide +kernel
theorem dL_acts_478 : decode cL_acts 478 = .ok (.invokestatic 82, 3) := by decide +kernel
theorem dL_acts_481 : decode cL_acts 481 = .ok (.iconst (-1), 1) := by decide +kernel
theorem dL_acts_482 : decode cL_acts 482 = .ok (.if_icmp .ne 71, 3) := by decide +kernel
theorem dL_acts_485 : decode cL_acts 485 = .ok (.aload_n 0, 1) := by decide +kernel
theorem dL_acts_486 : decode cL_acts 486 = .ok (.iload 11, 2) := by decide +kernel
theorem dL_acts_488 : decode cL_acts 488 = .ok (.iconst 0, 1) := by decide +kernel
theorem dL_acts_489 : decode cL_acts 489 = .ok (.invokestatic 80, 3) := by decide +kernel
theorem dL_acts_492 : decode cL_acts 492 = .ok (.sipush 255, 3) := by decide +kernel
theorem dL_acts_495 : decode cL_acts 495 = .ok (.if_icmp .ne 58, 3) := by decide +kernel
theorem dL_acts_498 : decode cL_acts 498 = .ok (.goto 10, 3) := by decide +kernel
theorem dL_acts_501 : decode cL_acts 501 = .ok (.iload 12, 2) := by decide +kernel
theorem dL_acts_503 : decode cL_acts 503 = .ok (.ldc 21, 2) := by decide +kernel
theorem dL_acts_505 : decode cL_acts 505 = .ok (.if_icmp .ne 48, 3) := by decide +kernel
theorem dL_acts_508 : decode cL_acts 508 = .ok (.aload_n 0, 1) := by decide +kernel
theorem dL_acts_509 : decode cL_acts 509 = .ok (.iload 6, 2) := by decide +kernel
theorem dL_acts_511 : decode cL_acts 511 = .ok (.invokestatic 86, 3) := by decide +kernel
theorem dL_acts_514 : decode cL_acts 514 = .ok (.iload 10, 2) := by decide +kernel
theorem dL_acts_516 : decode cL_acts 516 = .ok (.if_icmp .ne 37, 3) := by decide +kernel
theorem dL_acts_519 : decode cL_acts 519 = .ok (.aload_n 0, 1) := by decide +kernel
theorem dL_acts_520 : decode cL_acts 520 = .ok (.invokevirtual 106, 3) := by decide +kernel
theorem dL_acts_523 : decode cL_acts 523 = .ok (.iload 9, 2) := by decide +kernel
theorem dL_acts_525 : decode cL_acts 525 = .ok (.if_icmp .ne 28, 3) := by decide +kernel
theorem dL_acts_528 : decode cL_acts 528 = .ok (.aload_n 0, 1) := by decide +kernel
theorem dL_acts_529 : decode cL_acts 529 = .ok (.iload 6, 2) := by decide +kernel
theorem dL_acts_531 : decode cL_acts 531 = .ok (.invokestatic 72, 3) := by decide +kernel
theorem dL_acts_534 : decode cL_acts 534 = .ok (.iload 8, 2) := by decide +kernel
theorem dL_acts_536 : decode cL_acts 536 = .ok (.if_icmp .ne 17, 3) := by decide +kernel
theorem dL_acts_539 : decode cL_acts 539 = .ok (.aload_n 0, 1) := by decide +kernel
theorem dL_acts_540 : decode cL_acts 540 = .ok (.iconst (-1), 1) := by decide +kernel
theorem dL_acts_541 : decode cL_acts 541 = .ok (.invokestatic 102, 3) := by decide +kernel
theorem dL_acts_544 : decode cL_acts 544 = .ok (.ldc 28, 2) := by decide +kernel
theorem dL_acts_546 : decode cL_acts 546 = .ok (.if_icmp .ne 7, 3) := by decide +kernel
theorem dL_acts_549 : decode cL_acts 549 = .ok (.iconst 1, 1) := by decide +kernel
theorem dL_acts_550 : decode cL_acts 550 = .ok (.goto 4, 3) := by decide +kernel
theorem dL_acts_553 : decode cL_acts 553 = .ok (.iconst 0, 1) := by decide +kernel
theorem dL_acts_554 : decode cL_acts 554 = .ok (.ireturn, 1) := by decide +kernel
theorem dL_acts_555 : decode cL_acts 555 = .ok (.iload 7, 2) := by decide +kernel
theorem dL_acts_557 : decode cL_acts 557 = .ok (.ifCond .eq 13, 3) := by decide +kernel
theorem dL_acts_560 : decode cL_acts 560 = .ok (.aload_n 0, 1) := by decide +kernel
theorem dL_acts_561 : decode cL_acts 561 = .ok (.iload 6, 2) := by decide +kernel
theorem dL_acts_563 : decode cL_acts 563 = .ok (.iconst 0, 1) := by decide +kernel
theorem dL_acts_564 : decode cL_acts 564 = .ok (.invokestatic 77, 3) := by decide +kernel
theorem dL_acts_567 : decode cL_acts 567 = .ok (.goto 4, 3) := by decide +kernel
theorem dL_acts_570 : decode cL_acts 570 = .ok (.iconst 0, 1) := by decide +kernel
theorem dL_acts_571 : decode cL_acts 571 = .ok (.istore 10, 2) := by decide +kernel
theorem dL_acts_573 : decode cL_acts 573 = .ok (.aload_n 0, 1) := by decide +kernel
theorem dL_acts_574 : decode cL_acts 574 = .ok (.iload 6, 2) := by decide +kernel
theorem dL_acts_576 : decode cL_acts 576 = .ok (.invokestatic 86, 3) := by decide +kernel
theorem dL_acts_579 : decode cL_acts 579 = .ok (.istore 11, 2) := by decide +kernel
theorem dL_acts_581 : decode cL_acts 581 = .ok (.aload_n 0, 1) := by decide +kernel
theorem dL_acts_582 : decode cL_acts 582 = .ok (.iload 6, 2) := by decide +kernel
theorem dL_acts_584 : decode cL_acts 584 = .ok (.invokestatic 104, 3) := by decide +kernel
theorem dL_acts_587 : decode cL_acts 587 = .ok (.istore 12, 2) := by decide +kernel
theorem dL_acts_589 : decode cL_acts 589 = .ok (.iload 7, 2) := by decide +kernel
theorem dL_acts_591 : decode cL_acts 591 = .ok (.ifCond .ne 37, 3) := by decide +kernel
theorem dL_acts_594 : decode cL_acts 594 = .ok (.iload 12, 2) := by decide +kernel
theorem dL_acts_596 : decode cL_acts 596 = .ok (.ldc 21, 2) := by decide +kernel
theorem dL_acts_598 : decode cL_acts 598 = .ok (.if_icmp .ne 28, 3) := by decide +kernel
theorem dL_acts_601 : decode cL_acts 601 = .ok (.aload_n 0, 1) := by decide +kernel
theorem dL_acts_602 : decode cL_acts 602 = .ok (.invokevirtual 106, 3) := by decide +kernel
theorem dL_acts_605 : decode cL_acts 605 = .ok (.iload 9, 2) := by decide +kernel
theorem dL_acts_607 : decode cL_acts 607 = .ok (.if_icmp .ne 19, 3) := by decide +kernel
