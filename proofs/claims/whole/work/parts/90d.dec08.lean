theorem dl_806 : decode code 806 = .ok (.iload 5, 2) := by decide +kernel
theorem dl_808 : decode code 808 = .ok (.if_icmp .eq 5, 3) := by decide +kernel
theorem dl_811 : decode code 811 = .ok (.iconst 0, 1) := by decide +kernel
theorem dl_812 : decode code 812 = .ok (.ireturn, 1) := by decide +kernel
theorem dl_813 : decode code 813 = .ok (.iload 5, 2) := by decide +kernel
theorem dl_815 : decode code 815 = .ok (.ifCond .ne 15, 3) := by decide +kernel
theorem dl_818 : decode code 818 = .ok (.aload_n 3, 1) := by decide +kernel
theorem dl_819 : decode code 819 = .ok (.iconst 0, 1) := by decide +kernel
theorem dl_820 : decode code 820 = .ok (.laload, 1) := by decide +kernel
theorem dl_821 : decode code 821 = .ok (.iload 6, 2) := by decide +kernel
theorem dl_823 : decode code 823 = .ok (.i2l, 1) := by decide +kernel
theorem dl_824 : decode code 824 = .ok (.lcmp, 1) := by decide +kernel
theorem dl_825 : decode code 825 = .ok (.ifCond .eq 5, 3) := by decide +kernel
theorem dl_828 : decode code 828 = .ok (.iconst 0, 1) := by decide +kernel
theorem dl_829 : decode code 829 = .ok (.ireturn, 1) := by decide +kernel
theorem dl_830 : decode code 830 = .ok (.goto 72, 3) := by decide +kernel
theorem dl_833 : decode code 833 = .ok (.aload_n 1, 1) := by decide +kernel
theorem dl_834 : decode code 834 = .ok (.aload_n 0, 1) := by decide +kernel
theorem dl_835 : decode code 835 = .ok (.iload 4, 2) := by decide +kernel
theorem dl_837 : decode code 837 = .ok (.iconst 1, 1) := by decide +kernel
theorem dl_838 : decode code 838 = .ok (.iadd, 1) := by decide +kernel
theorem dl_839 : decode code 839 = .ok (.iaload, 1) := by decide +kernel
theorem dl_840 : decode code 840 = .ok (.aload_n 3, 1) := by decide +kernel
theorem dl_841 : decode code 841 = .ok (.invokestatic 102, 3) := by decide +kernel
theorem dl_844 : decode code 844 = .ok (.istore 5, 2) := by decide +kernel
theorem dl_846 : decode code 846 = .ok (.aload_n 2, 1) := by decide +kernel
theorem dl_847 : decode code 847 = .ok (.aload_n 0, 1) := by decide +kernel
theorem dl_848 : decode code 848 = .ok (.iload 4, 2) := by decide +kernel
theorem dl_850 : decode code 850 = .ok (.iconst 1, 1) := by decide +kernel
theorem dl_851 : decode code 851 = .ok (.iadd, 1) := by decide +kernel
theorem dl_852 : decode code 852 = .ok (.iaload, 1) := by decide +kernel
theorem dl_853 : decode code 853 = .ok (.invokevirtual 104, 3) := by decide +kernel
theorem dl_856 : decode code 856 = .ok (.istore 6, 2) := by decide +kernel
theorem dl_858 : decode code 858 = .ok (.aload_n 2, 1) := by decide +kernel
theorem dl_859 : decode code 859 = .ok (.invokevirtual 62, 3) := by decide +kernel
theorem dl_862 : decode code 862 = .ok (.iload 5, 2) := by decide +kernel
theorem dl_864 : decode code 864 = .ok (.if_icmp .eq 5, 3) := by decide +kernel
theorem dl_867 : decode code 867 = .ok (.iconst 0, 1) := by decide +kernel
theorem dl_868 : decode code 868 = .ok (.ireturn, 1) := by decide +kernel
theorem dl_869 : decode code 869 = .ok (.iload 5, 2) := by decide +kernel
theorem dl_871 : decode code 871 = .ok (.ifCond .ne 15, 3) := by decide +kernel
theorem dl_874 : decode code 874 = .ok (.aload_n 3, 1) := by decide +kernel
theorem dl_875 : decode code 875 = .ok (.iconst 0, 1) := by decide +kernel
theorem dl_876 : decode code 876 = .ok (.laload, 1) := by decide +kernel
theorem dl_877 : decode code 877 = .ok (.iload 6, 2) := by decide +kernel
theorem dl_879 : decode code 879 = .ok (.i2l, 1) := by decide +kernel
theorem dl_880 : decode code 880 = .ok (.lcmp, 1) := by decide +kernel
theorem dl_881 : decode code 881 = .ok (.ifCond .eq 5, 3) := by decide +kernel
theorem dl_884 : decode code 884 = .ok (.iconst 0, 1) := by decide +kernel
theorem dl_885 : decode code 885 = .ok (.ireturn, 1) := by decide +kernel
theorem dl_886 : decode code 886 = .ok (.goto 16, 3) := by decide +kernel
theorem dl_889 : decode code 889 = .ok (.aload_n 1, 1) := by decide +kernel
theorem dl_890 : decode code 890 = .ok (.invokevirtual 105, 3) := by decide +kernel
theorem dl_893 : decode code 893 = .ok (.aload_n 2, 1) := by decide +kernel
theorem dl_894 : decode code 894 = .ok (.invokevirtual 108, 3) := by decide +kernel
theorem dl_897 : decode code 897 = .ok (.if_icmp .eq 5, 3) := by decide +kernel
theorem dl_900 : decode code 900 = .ok (.iconst 0, 1) := by decide +kernel
theorem dl_901 : decode code 901 = .ok (.ireturn, 1) := by decide +kernel
theorem dl_902 : decode code 902 = .ok (.iinc 4 4, 3) := by decide +kernel
theorem dl_905 : decode code 905 = .ok (.goto (-882), 3) := by decide +kernel
