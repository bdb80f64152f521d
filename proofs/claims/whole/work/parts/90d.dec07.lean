theorem dl_711 : decode code 711 = .ok (.i2l, 1) := by decide +kernel
theorem dl_712 : decode code 712 = .ok (.lcmp, 1) := by decide +kernel
theorem dl_713 : decode code 713 = .ok (.ifCond .eq 5, 3) := by decide +kernel
theorem dl_716 : decode code 716 = .ok (.iconst 0, 1) := by decide +kernel
theorem dl_717 : decode code 717 = .ok (.ireturn, 1) := by decide +kernel
theorem dl_718 : decode code 718 = .ok (.goto 184, 3) := by decide +kernel
theorem dl_721 : decode code 721 = .ok (.aload_n 1, 1) := by decide +kernel
theorem dl_722 : decode code 722 = .ok (.aload_n 0, 1) := by decide +kernel
theorem dl_723 : decode code 723 = .ok (.iload 4, 2) := by decide +kernel
theorem dl_725 : decode code 725 = .ok (.iconst 1, 1) := by decide +kernel
theorem dl_726 : decode code 726 = .ok (.iadd, 1) := by decide +kernel
theorem dl_727 : decode code 727 = .ok (.iaload, 1) := by decide +kernel
theorem dl_728 : decode code 728 = .ok (.aload_n 3, 1) := by decide +kernel
theorem dl_729 : decode code 729 = .ok (.invokestatic 96, 3) := by decide +kernel
theorem dl_732 : decode code 732 = .ok (.istore 5, 2) := by decide +kernel
theorem dl_734 : decode code 734 = .ok (.aload_n 2, 1) := by decide +kernel
theorem dl_735 : decode code 735 = .ok (.aload_n 0, 1) := by decide +kernel
theorem dl_736 : decode code 736 = .ok (.iload 4, 2) := by decide +kernel
theorem dl_738 : decode code 738 = .ok (.iconst 1, 1) := by decide +kernel
theorem dl_739 : decode code 739 = .ok (.iadd, 1) := by decide +kernel
theorem dl_740 : decode code 740 = .ok (.iaload, 1) := by decide +kernel
theorem dl_741 : decode code 741 = .ok (.invokevirtual 98, 3) := by decide +kernel
theorem dl_744 : decode code 744 = .ok (.istore 6, 2) := by decide +kernel
theorem dl_746 : decode code 746 = .ok (.aload_n 2, 1) := by decide +kernel
theorem dl_747 : decode code 747 = .ok (.invokevirtual 62, 3) := by decide +kernel
theorem dl_750 : decode code 750 = .ok (.iload 5, 2) := by decide +kernel
theorem dl_752 : decode code 752 = .ok (.if_icmp .eq 5, 3) := by decide +kernel
theorem dl_755 : decode code 755 = .ok (.iconst 0, 1) := by decide +kernel
theorem dl_756 : decode code 756 = .ok (.ireturn, 1) := by decide +kernel
theorem dl_757 : decode code 757 = .ok (.iload 5, 2) := by decide +kernel
theorem dl_759 : decode code 759 = .ok (.ifCond .ne 15, 3) := by decide +kernel
theorem dl_762 : decode code 762 = .ok (.aload_n 3, 1) := by decide +kernel
theorem dl_763 : decode code 763 = .ok (.iconst 0, 1) := by decide +kernel
theorem dl_764 : decode code 764 = .ok (.laload, 1) := by decide +kernel
theorem dl_765 : decode code 765 = .ok (.iload 6, 2) := by decide +kernel
theorem dl_767 : decode code 767 = .ok (.i2l, 1) := by decide +kernel
theorem dl_768 : decode code 768 = .ok (.lcmp, 1) := by decide +kernel
theorem dl_769 : decode code 769 = .ok (.ifCond .eq 5, 3) := by decide +kernel
theorem dl_772 : decode code 772 = .ok (.iconst 0, 1) := by decide +kernel
theorem dl_773 : decode code 773 = .ok (.ireturn, 1) := by decide +kernel
theorem dl_774 : decode code 774 = .ok (.goto 128, 3) := by decide +kernel
theorem dl_777 : decode code 777 = .ok (.aload_n 1, 1) := by decide +kernel
theorem dl_778 : decode code 778 = .ok (.aload_n 0, 1) := by decide +kernel
theorem dl_779 : decode code 779 = .ok (.iload 4, 2) := by decide +kernel
theorem dl_781 : decode code 781 = .ok (.iconst 1, 1) := by decide +kernel
theorem dl_782 : decode code 782 = .ok (.iadd, 1) := by decide +kernel
theorem dl_783 : decode code 783 = .ok (.iaload, 1) := by decide +kernel
theorem dl_784 : decode code 784 = .ok (.aload_n 3, 1) := by decide +kernel
theorem dl_785 : decode code 785 = .ok (.invokestatic 99, 3) := by decide +kernel
theorem dl_788 : decode code 788 = .ok (.istore 5, 2) := by decide +kernel
theorem dl_790 : decode code 790 = .ok (.aload_n 2, 1) := by decide +kernel
theorem dl_791 : decode code 791 = .ok (.aload_n 0, 1) := by decide +kernel
theorem dl_792 : decode code 792 = .ok (.iload 4, 2) := by decide +kernel
theorem dl_794 : decode code 794 = .ok (.iconst 1, 1) := by decide +kernel
theorem dl_795 : decode code 795 = .ok (.iadd, 1) := by decide +kernel
theorem dl_796 : decode code 796 = .ok (.iaload, 1) := by decide +kernel
theorem dl_797 : decode code 797 = .ok (.invokevirtual 101, 3) := by decide +kernel
theorem dl_800 : decode code 800 = .ok (.istore 6, 2) := by decide +kernel
theorem dl_802 : decode code 802 = .ok (.aload_n 2, 1) := by decide +kernel
theorem dl_803 : decode code 803 = .ok (.invokevirtual 62, 3) := by decide +kernel
