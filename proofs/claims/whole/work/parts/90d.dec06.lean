theorem dl_614 : decode code 614 = .ok (.iadd, 1) := by decide +kernel
theorem dl_615 : decode code 615 = .ok (.iaload, 1) := by decide +kernel
theorem dl_616 : decode code 616 = .ok (.aload_n 3, 1) := by decide +kernel
theorem dl_617 : decode code 617 = .ok (.invokestatic 90, 3) := by decide +kernel
theorem dl_620 : decode code 620 = .ok (.istore 5, 2) := by decide +kernel
theorem dl_622 : decode code 622 = .ok (.aload_n 2, 1) := by decide +kernel
theorem dl_623 : decode code 623 = .ok (.aload_n 0, 1) := by decide +kernel
theorem dl_624 : decode code 624 = .ok (.iload 4, 2) := by decide +kernel
theorem dl_626 : decode code 626 = .ok (.iconst 1, 1) := by decide +kernel
theorem dl_627 : decode code 627 = .ok (.iadd, 1) := by decide +kernel
theorem dl_628 : decode code 628 = .ok (.iaload, 1) := by decide +kernel
theorem dl_629 : decode code 629 = .ok (.invokevirtual 92, 3) := by decide +kernel
theorem dl_632 : decode code 632 = .ok (.istore 6, 2) := by decide +kernel
theorem dl_634 : decode code 634 = .ok (.aload_n 2, 1) := by decide +kernel
theorem dl_635 : decode code 635 = .ok (.invokevirtual 62, 3) := by decide +kernel
theorem dl_638 : decode code 638 = .ok (.iload 5, 2) := by decide +kernel
theorem dl_640 : decode code 640 = .ok (.if_icmp .eq 5, 3) := by decide +kernel
theorem dl_643 : decode code 643 = .ok (.iconst 0, 1) := by decide +kernel
theorem dl_644 : decode code 644 = .ok (.ireturn, 1) := by decide +kernel
theorem dl_645 : decode code 645 = .ok (.iload 5, 2) := by decide +kernel
theorem dl_647 : decode code 647 = .ok (.ifCond .ne 15, 3) := by decide +kernel
theorem dl_650 : decode code 650 = .ok (.aload_n 3, 1) := by decide +kernel
theorem dl_651 : decode code 651 = .ok (.iconst 0, 1) := by decide +kernel
theorem dl_652 : decode code 652 = .ok (.laload, 1) := by decide +kernel
theorem dl_653 : decode code 653 = .ok (.iload 6, 2) := by decide +kernel
theorem dl_655 : decode code 655 = .ok (.i2l, 1) := by decide +kernel
theorem dl_656 : decode code 656 = .ok (.lcmp, 1) := by decide +kernel
theorem dl_657 : decode code 657 = .ok (.ifCond .eq 5, 3) := by decide +kernel
theorem dl_660 : decode code 660 = .ok (.iconst 0, 1) := by decide +kernel
theorem dl_661 : decode code 661 = .ok (.ireturn, 1) := by decide +kernel
theorem dl_662 : decode code 662 = .ok (.goto 240, 3) := by decide +kernel
theorem dl_665 : decode code 665 = .ok (.aload_n 1, 1) := by decide +kernel
theorem dl_666 : decode code 666 = .ok (.aload_n 0, 1) := by decide +kernel
theorem dl_667 : decode code 667 = .ok (.iload 4, 2) := by decide +kernel
theorem dl_669 : decode code 669 = .ok (.iconst 1, 1) := by decide +kernel
theorem dl_670 : decode code 670 = .ok (.iadd, 1) := by decide +kernel
theorem dl_671 : decode code 671 = .ok (.iaload, 1) := by decide +kernel
theorem dl_672 : decode code 672 = .ok (.aload_n 3, 1) := by decide +kernel
theorem dl_673 : decode code 673 = .ok (.invokestatic 93, 3) := by decide +kernel
theorem dl_676 : decode code 676 = .ok (.istore 5, 2) := by decide +kernel
theorem dl_678 : decode code 678 = .ok (.aload_n 2, 1) := by decide +kernel
theorem dl_679 : decode code 679 = .ok (.aload_n 0, 1) := by decide +kernel
theorem dl_680 : decode code 680 = .ok (.iload 4, 2) := by decide +kernel
theorem dl_682 : decode code 682 = .ok (.iconst 1, 1) := by decide +kernel
theorem dl_683 : decode code 683 = .ok (.iadd, 1) := by decide +kernel
theorem dl_684 : decode code 684 = .ok (.iaload, 1) := by decide +kernel
theorem dl_685 : decode code 685 = .ok (.invokevirtual 95, 3) := by decide +kernel
theorem dl_688 : decode code 688 = .ok (.istore 6, 2) := by decide +kernel
theorem dl_690 : decode code 690 = .ok (.aload_n 2, 1) := by decide +kernel
theorem dl_691 : decode code 691 = .ok (.invokevirtual 62, 3) := by decide +kernel
theorem dl_694 : decode code 694 = .ok (.iload 5, 2) := by decide +kernel
theorem dl_696 : decode code 696 = .ok (.if_icmp .eq 5, 3) := by decide +kernel
theorem dl_699 : decode code 699 = .ok (.iconst 0, 1) := by decide +kernel
theorem dl_700 : decode code 700 = .ok (.ireturn, 1) := by decide +kernel
theorem dl_701 : decode code 701 = .ok (.iload 5, 2) := by decide +kernel
theorem dl_703 : decode code 703 = .ok (.ifCond .ne 15, 3) := by decide +kernel
theorem dl_706 : decode code 706 = .ok (.aload_n 3, 1) := by decide +kernel
theorem dl_707 : decode code 707 = .ok (.iconst 0, 1) := by decide +kernel
theorem dl_708 : decode code 708 = .ok (.laload, 1) := by decide +kernel
theorem dl_709 : decode code 709 = .ok (.iload 6, 2) := by decide +kernel
