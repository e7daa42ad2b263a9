theorem dL_acts_610 : decode cL_acts 610 = .ok (.aload_n 0, 1) := by decide +kernel
theorem dL_acts_611 : decode cL_acts 611 = .ok (.aload_n 2, 1) := by decide +kernel
theorem dL_acts_612 : decode cL_acts 612 = .ok (.iconst 0, 1) := by decide +kernel
theorem dL_acts_613 : decode cL_acts 613 = .ok (.iaload, 1) := by decide +kernel
theorem dL_acts_614 : decode cL_acts 614 = .ok (.invokestatic 104, 3) := by decide +kernel
theorem dL_acts_617 : decode cL_acts 617 = .ok (.ldc 28, 2) := by decide +kernel
theorem dL_acts_619 : decode cL_acts 619 = .ok (.if_icmp .ne 7, 3) := by decide +kernel
theorem dL_acts_622 : decode cL_acts 622 = .ok (.iconst 1, 1) := by decide +kernel
theorem dL_acts_623 : decode cL_acts 623 = .ok (.goto 4, 3) := by decide +kernel
theorem dL_acts_626 : decode cL_acts 626 = .ok (.iconst 0, 1) := by decide +kernel
theorem dL_acts_627 : decode cL_acts 627 = .ok (.ireturn, 1) := by decide +kernel
theorem dL_acts_628 : decode cL_acts 628 = .ok (.aload_n 2, 1) := by decide +kernel
theorem dL_acts_629 : decode cL_acts 629 = .ok (.iconst 1, 1) := by decide +kernel
theorem dL_acts_630 : decode cL_acts 630 = .ok (.dup2, 1) := by decide +kernel
theorem dL_acts_631 : decode cL_acts 631 = .ok (.iaload, 1) := by decide +kernel
theorem dL_acts_632 : decode cL_acts 632 = .ok (.iconst 1, 1) := by decide +kernel
theorem dL_acts_633 : decode cL_acts 633 = .ok (.iadd, 1) := by decide +kernel
theorem dL_acts_634 : decode cL_acts 634 = .ok (.iastore, 1) := by decide +kernel
theorem dL_acts_635 : decode cL_acts 635 = .ok (.aload_n 1, 1) := by decide +kernel
theorem dL_acts_636 : decode cL_acts 636 = .ok (.iconst 3, 1) := by decide +kernel
theorem dL_acts_637 : decode cL_acts 637 = .ok (.iload 6, 2) := by decide +kernel
theorem dL_acts_639 : decode cL_acts 639 = .ok (.imul, 1) := by decide +kernel
theorem dL_acts_640 : decode cL_acts 640 = .ok (.iconst 1, 1) := by decide +kernel
theorem dL_acts_641 : decode cL_acts 641 = .ok (.iadd, 1) := by decide +kernel
theorem dL_acts_642 : decode cL_acts 642 = .ok (.aload_n 2, 1) := by decide +kernel
theorem dL_acts_643 : decode cL_acts 643 = .ok (.iconst 1, 1) := by decide +kernel
theorem dL_acts_644 : decode cL_acts 644 = .ok (.iaload, 1) := by decide +kernel
theorem dL_acts_645 : decode cL_acts 645 = .ok (.iastore, 1) := by decide +kernel
theorem dL_acts_646 : decode cL_acts 646 = .ok (.aload_n 1, 1) := by decide +kernel
theorem dL_acts_647 : decode cL_acts 647 = .ok (.iconst 3, 1) := by decide +kernel
theorem dL_acts_648 : decode cL_acts 648 = .ok (.iload 6, 2) := by decide +kernel
theorem dL_acts_650 : decode cL_acts 650 = .ok (.imul, 1) := by decide +kernel
theorem dL_acts_651 : decode cL_acts 651 = .ok (.iconst 2, 1) := by decide +kernel
theorem dL_acts_652 : decode cL_acts 652 = .ok (.iadd, 1) := by decide +kernel
theorem dL_acts_653 : decode cL_acts 653 = .ok (.iload 10, 2) := by decide +kernel
theorem dL_acts_655 : decode cL_acts 655 = .ok (.iastore, 1) := by decide +kernel
theorem dL_acts_656 : decode cL_acts 656 = .ok (.iload 12, 2) := by decide +kernel
theorem dL_acts_658 : decode cL_acts 658 = .ok (.iload 9, 2) := by decide +kernel
theorem dL_acts_660 : decode cL_acts 660 = .ok (.iload 8, 2) := by decide +kernel
theorem dL_acts_662 : decode cL_acts 662 = .ok (.iadd, 1) := by decide +kernel
theorem dL_acts_663 : decode cL_acts 663 = .ok (.if_icmp .ne 68, 3) := by decide +kernel
theorem dL_acts_666 : decode cL_acts 666 = .ok (.aload_n 0, 1) := by decide +kernel
theorem dL_acts_667 : decode cL_acts 667 = .ok (.invokevirtual 106, 3) := by decide +kernel
theorem dL_acts_670 : decode cL_acts 670 = .ok (.iload 12, 2) := by decide +kernel
theorem dL_acts_672 : decode cL_acts 672 = .ok (.if_icmp .ne 59, 3) := by decide +kernel
theorem dL_acts_675 : decode cL_acts 675 = .ok (.aload_n 0, 1) := by decide +kernel
theorem dL_acts_676 : decode cL_acts 676 = .ok (.iload 6, 2) := by decide +kernel
theorem dL_acts_678 : decode cL_acts 678 = .ok (.invokestatic 86, 3) := by decide +kernel
theorem dL_acts_681 : decode cL_acts 681 = .ok (.iload 11, 2) := by decide +kernel
theorem dL_acts_683 : decode cL_acts 683 = .ok (.if_icmp .ne 48, 3) := by decide +kernel
theorem dL_acts_686 : decode cL_acts 686 = .ok (.aload_n 0, 1) := by decide +kernel
theorem dL_acts_687 : decode cL_acts 687 = .ok (.iload 6, 2) := by decide +kernel
theorem dL_acts_689 : decode cL_acts 689 = .ok (.invokestatic 94, 3) := by decide +kernel
theorem dL_acts_692 : decode cL_acts 692 = .ok (.iload 8, 2) := by decide +kernel
theorem dL_acts_694 : decode cL_acts 694 = .ok (.iconst 5, 1) := by decide +kernel
theorem dL_acts_695 : decode cL_acts 695 = .ok (.if_icmp .ge 7, 3) := by decide +kernel
theorem dL_acts_698 : decode cL_acts 698 = .ok (.iconst 1, 1) := by decide +kernel
theorem dL_acts_699 : decode cL_acts 699 = .ok (.goto 4, 3) := by decide +kernel
theorem dL_acts_702 : decode cL_acts 702 = .ok (.iconst 0, 1) := by decide +kernel
theorem dL_acts_703 : decode cL_acts 703 = .ok (.if_icmp .ne 28, 3) := by decide +kernel
theorem dL_acts_706 : decode cL_acts 706 = .ok (.aload_n 0, 1) := by decide +kernel
theorem dL_acts_707 : decode cL_acts 707 = .ok (.iload 6, 2) := by decide +kernel
theorem dL_acts_709 : decode cL_acts 709 = .ok (.iconst 0, 1) := by decide +kernel
theorem dL_acts_710 : decode cL_acts 710 = .ok (.invokestatic 98, 3) := by decide +kernel
theorem dL_acts_713 : decode cL_acts 713 = .ok (.iload 10, 2) := by decide +kernel
theorem dL_acts_715 : decode cL_acts 715 = .ok (.if_icmp .ne 16, 3) := by decide +kernel
theorem dL_acts_718 : decode cL_acts 718 = .ok (.aload_n 0, 1) := by decide +kernel
theorem dL_acts_719 : decode cL_acts 719 = .ok (.iload 6, 2) := by decide +kernel
theorem dL_acts_721 : decode cL_acts 721 = .ok (.invokestatic 90, 3) := by decide +kernel
theorem dL_acts_724 : decode cL_acts 724 = .ok (.ifCond .le 7, 3) := by decide +kernel
theorem dL_acts_727 : decode cL_acts 727 = .ok (.iconst 1, 1) := by decide +kernel
theorem dL_acts_728 : decode cL_acts 728 = .ok (.goto 4, 3) := by decide +kernel
theorem dL_acts_731 : decode cL_acts 731 = .ok (.iconst 0, 1) := by decide +kernel
theorem dL_acts_732 : decode cL_acts 732 = .ok (.ireturn, 1) := by decide +kernel
