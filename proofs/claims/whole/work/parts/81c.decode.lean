/-! DECODE: every instruction at its place -/
theorem dX4_init_0 : decode cX4_init 0 = .ok (.aload_n 0, 1) := by decide +kernel
theorem dX4_init_1 : decode cX4_init 1 = .ok (.invokespecial 1, 3) := by decide +kernel
theorem dX4_init_4 : decode cX4_init 4 = .ok (.aload_n 0, 1) := by decide +kernel
theorem dX4_init_5 : decode cX4_init 5 = .ok (.bipush 7, 2) := by decide +kernel
theorem dX4_init_7 : decode cX4_init 7 = .ok (.newarray .int, 2) := by decide +kernel
theorem dX4_init_9 : decode cX4_init 9 = .ok (.putfield 7, 3) := by decide +kernel
theorem dX4_init_12 : decode cX4_init 12 = .ok (.aload_n 0, 1) := by decide +kernel
theorem dX4_init_13 : decode cX4_init 13 = .ok (.bipush 7, 2) := by decide +kernel
theorem dX4_init_15 : decode cX4_init 15 = .ok (.newarray .int, 2) := by decide +kernel
theorem dX4_init_17 : decode cX4_init 17 = .ok (.putfield 13, 3) := by decide +kernel
theorem dX4_init_20 : decode cX4_init 20 = .ok (.aload_n 0, 1) := by decide +kernel
theorem dX4_init_21 : decode cX4_init 21 = .ok (.bipush 7, 2) := by decide +kernel
theorem dX4_init_23 : decode cX4_init 23 = .ok (.newarray .int, 2) := by decide +kernel
theorem dX4_init_25 : decode cX4_init 25 = .ok (.putfield 16, 3) := by decide +kernel
theorem dX4_init_28 : decode cX4_init 28 = .ok (.aload_n 0, 1) := by decide +kernel
theorem dX4_init_29 : decode cX4_init 29 = .ok (.bipush 7, 2) := by decide +kernel
theorem dX4_init_31 : decode cX4_init 31 = .ok (.newarray .int, 2) := by decide +kernel
theorem dX4_init_33 : decode cX4_init 33 = .ok (.putfield 19, 3) := by decide +kernel
theorem dX4_init_36 : decode cX4_init 36 = .ok (.aload_n 0, 1) := by decide +kernel
theorem dX4_init_37 : decode cX4_init 37 = .ok (.iconst 4, 1) := by decide +kernel
theorem dX4_init_38 : decode cX4_init 38 = .ok (.newarray .int, 2) := by decide +kernel
theorem dX4_init_40 : decode cX4_init 40 = .ok (.putfield 22, 3) := by decide +kernel
theorem dX4_init_43 : decode cX4_init 43 = .ok (.aload_n 0, 1) := by decide +kernel
theorem dX4_init_44 : decode cX4_init 44 = .ok (.iconst 4, 1) := by decide +kernel
theorem dX4_init_45 : decode cX4_init 45 = .ok (.newarray .int, 2) := by decide +kernel
theorem dX4_init_47 : decode cX4_init 47 = .ok (.putfield 25, 3) := by decide +kernel
theorem dX4_init_50 : decode cX4_init 50 = .ok (.aload_n 0, 1) := by decide +kernel
theorem dX4_init_51 : decode cX4_init 51 = .ok (.ldc 28, 2) := by decide +kernel
theorem dX4_init_53 : decode cX4_init 53 = .ok (.putfield 29, 3) := by decide +kernel
theorem dX4_init_56 : decode cX4_init 56 = .ok (.aload_n 0, 1) := by decide +kernel
theorem dX4_init_57 : decode cX4_init 57 = .ok (.iconst 5, 1) := by decide +kernel
theorem dX4_init_58 : decode cX4_init 58 = .ok (.newarray .int, 2) := by decide +kernel
theorem dX4_init_60 : decode cX4_init 60 = .ok (.putfield 33, 3) := by decide +kernel
theorem dX4_init_63 : decode cX4_init 63 = .ok (.aload_n 0, 1) := by decide +kernel
theorem dX4_init_64 : decode cX4_init 64 = .ok (.iconst 5, 1) := by decide +kernel
theorem dX4_init_65 : decode cX4_init 65 = .ok (.newarray .int, 2) := by decide +kernel
theorem dX4_init_67 : decode cX4_init 67 = .ok (.putfield 36, 3) := by decide +kernel
theorem dX4_init_70 : decode cX4_init 70 = .ok (.aload_n 0, 1) := by decide +kernel
theorem dX4_init_71 : decode cX4_init 71 = .ok (.bipush 7, 2) := by decide +kernel
theorem dX4_init_73 : decode cX4_init 73 = .ok (.newarray .int, 2) := by decide +kernel
theorem dX4_init_75 : decode cX4_init 75 = .ok (.putfield 39, 3) := by decide +kernel
theorem dX4_init_78 : decode cX4_init 78 = .ok (.aload_n 0, 1) := by decide +kernel
theorem dX4_init_79 : decode cX4_init 79 = .ok (.bipush 7, 2) := by decide +kernel
theorem dX4_init_81 : decode cX4_init 81 = .ok (.newarray .long, 2) := by decide +kernel
theorem dX4_init_83 : decode cX4_init 83 = .ok (.putfield 42, 3) := by decide +kernel
theorem dX4_init_86 : decode cX4_init 86 = .ok (.aload_n 0, 1) := by decide +kernel
theorem dX4_init_87 : decode cX4_init 87 = .ok (.bipush 7, 2) := by decide +kernel
theorem dX4_init_89 : decode cX4_init 89 = .ok (.newarray .int, 2) := by decide +kernel
theorem dX4_init_91 : decode cX4_init 91 = .ok (.putfield 46, 3) := by decide +kernel
theorem dX4_init_94 : decode cX4_init 94 = .ok (.aload_n 0, 1) := by decide +kernel
theorem dX4_init_95 : decode cX4_init 95 = .ok (.bipush 7, 2) := by decide +kernel
theorem dX4_init_97 : decode cX4_init 97 = .ok (.newarray .long, 2) := by decide +kernel
theorem dX4_init_99 : decode cX4_init 99 = .ok (.putfield 49, 3) := by decide +kernel
theorem dX4_init_102 : decode cX4_init 102 = .ok (.aload_n 0, 1) := by decide +kernel
theorem dX4_init_103 : decode cX4_init 103 = .ok (.bipush 28, 2) := by decide +kernel
theorem dX4_init_105 : decode cX4_init 105 = .ok (.newarray .long, 2) := by decide +kernel
theorem dX4_init_107 : decode cX4_init 107 = .ok (.putfield 52, 3) := by decide +kernel
theorem dX4_init_110 : decode cX4_init 110 = .ok (.return_, 1) := by decide +kernel
theorem dX4_thrown_0 : decode cX4_thrown 0 = .ok (.aload_n 0, 1) := by decide +kernel
theorem dX4_thrown_1 : decode cX4_thrown 1 = .ok (.getfield 55, 3) := by decide +kernel
theorem dX4_thrown_4 : decode cX4_thrown 4 = .ok (.ireturn, 1) := by decide +kernel
theorem dX4_isIn_0 : decode cX4_isIn 0 = .ok (.lload_n 0, 1) := by decide +kernel
theorem dX4_isIn_1 : decode cX4_isIn 1 = .ok (.lload_n 2, 1) := by decide +kernel
theorem dX4_isIn_2 : decode cX4_isIn 2 = .ok (.lcmp, 1) := by decide +kernel
theorem dX4_isIn_3 : decode cX4_isIn 3 = .ok (.ifCond .lt 14, 3) := by decide +kernel
theorem dX4_isIn_6 : decode cX4_isIn 6 = .ok (.lload_n 0, 1) := by decide +kernel
theorem dX4_isIn_7 : decode cX4_isIn 7 = .ok (.lload 4, 2) := by decide +kernel
theorem dX4_isIn_9 : decode cX4_isIn 9 = .ok (.lcmp, 1) := by decide +kernel
theorem dX4_isIn_10 : decode cX4_isIn 10 = .ok (.ifCond .gt 7, 3) := by decide +kernel
theorem dX4_isIn_13 : decode cX4_isIn 13 = .ok (.iconst 1, 1) := by decide +kernel
theorem dX4_isIn_14 : decode cX4_isIn 14 = .ok (.goto 4, 3) := by decide +kernel
theorem dX4_isIn_17 : decode cX4_isIn 17 = .ok (.iconst 0, 1) := by decide +kernel
theorem dX4_isIn_18 : decode cX4_isIn 18 = .ok (.ireturn, 1) := by decide +kernel
theorem dX4_isDuct_0 : decode cX4_isDuct 0 = .ok (.iload_n 1, 1) := by decide +kernel
theorem dX4_isDuct_1 : decode cX4_isDuct 1 = .ok (.i2l, 1) := by decide +kernel
theorem dX4_isDuct_2 : decode cX4_isDuct 2 = .ok (.lconst 1, 1) := by decide +kernel
theorem dX4_isDuct_3 : decode cX4_isDuct 3 = .ok (.aload_n 0, 1) := by decide +kernel
theorem dX4_isDuct_4 : decode cX4_isDuct 4 = .ok (.getfield 58, 3) := by decide +kernel
theorem dX4_isDuct_7 : decode cX4_isDuct 7 = .ok (.i2l, 1) := by decide +kernel
theorem dX4_isDuct_8 : decode cX4_isDuct 8 = .ok (.invokestatic 61, 3) := by decide +kernel
theorem dX4_isDuct_11 : decode cX4_isDuct 11 = .ok (.ireturn, 1) := by decide +kernel
theorem dX4_duct_0 : decode cX4_duct 0 = .ok (.aload_n 0, 1) := by decide +kernel
theorem dX4_duct_1 : decode cX4_duct 1 = .ok (.iload_n 1, 1) := by decide +kernel
theorem dX4_duct_2 : decode cX4_duct 2 = .ok (.i2l, 1) := by decide +kernel
theorem dX4_duct_3 : decode cX4_duct 3 = .ok (.lconst 0, 1) := by decide +kernel
theorem dX4_duct_4 : decode cX4_duct 4 = .ok (.aload_n 0, 1) := by decide +kernel
theorem dX4_duct_5 : decode cX4_duct 5 = .ok (.getfield 58, 3) := by decide +kernel
theorem dX4_duct_8 : decode cX4_duct 8 = .ok (.i2l, 1) := by decide +kernel
theorem dX4_duct_9 : decode cX4_duct 9 = .ok (.invokestatic 61, 3) := by decide +kernel
theorem dX4_duct_12 : decode cX4_duct 12 = .ok (.ifCond .eq 27, 3) := by decide +kernel
theorem dX4_duct_15 : decode cX4_duct 15 = .ok (.iload_n 2, 1) := by decide +kernel
theorem dX4_duct_16 : decode cX4_duct 16 = .ok (.i2l, 1) := by decide +kernel
theorem dX4_duct_17 : decode cX4_duct 17 = .ok (.lconst 1, 1) := by decide +kernel
theorem dX4_duct_18 : decode cX4_duct 18 = .ok (.ldc2_w 65, 3) := by decide +kernel
theorem dX4_duct_21 : decode cX4_duct 21 = .ok (.invokestatic 61, 3) := by decide +kernel
theorem dX4_duct_24 : decode cX4_duct 24 = .ok (.ifCond .eq 15, 3) := by decide +kernel
theorem dX4_duct_27 : decode cX4_duct 27 = .ok (.iload_n 3, 1) := by decide +kernel
theorem dX4_duct_28 : decode cX4_duct 28 = .ok (.i2l, 1) := by decide +kernel
theorem dX4_duct_29 : decode cX4_duct 29 = .ok (.lconst 0, 1) := by decide +kernel
theorem dX4_duct_30 : decode cX4_duct 30 = .ok (.ldc2_w 67, 3) := by decide +kernel
theorem dX4_duct_33 : decode cX4_duct 33 = .ok (.invokestatic 61, 3) := by decide +kernel
theorem dX4_duct_36 : decode cX4_duct 36 = .ok (.ifCond .ne 7, 3) := by decide +kernel
theorem dX4_duct_39 : decode cX4_duct 39 = .ok (.iconst 1, 1) := by decide +kernel
theorem dX4_duct_40 : decode cX4_duct 40 = .ok (.goto 17, 3) := by decide +kernel
theorem dX4_duct_43 : decode cX4_duct 43 = .ok (.aload_n 0, 1) := by decide +kernel
theorem dX4_duct_44 : decode cX4_duct 44 = .ok (.getfield 58, 3) := by decide +kernel
theorem dX4_duct_47 : decode cX4_duct 47 = .ok (.bipush 6, 2) := by decide +kernel
theorem dX4_duct_49 : decode cX4_duct 49 = .ok (.if_icmp .ne 7, 3) := by decide +kernel
theorem dX4_duct_52 : decode cX4_duct 52 = .ok (.iconst 2, 1) := by decide +kernel
theorem dX4_duct_53 : decode cX4_duct 53 = .ok (.goto 4, 3) := by decide +kernel
theorem dX4_duct_56 : decode cX4_duct 56 = .ok (.iconst 0, 1) := by decide +kernel
theorem dX4_duct_57 : decode cX4_duct 57 = .ok (.putfield 55, 3) := by decide +kernel
theorem dX4_duct_60 : decode cX4_duct 60 = .ok (.aload_n 0, 1) := by decide +kernel
theorem dX4_duct_61 : decode cX4_duct 61 = .ok (.getfield 55, 3) := by decide +kernel
theorem dX4_duct_64 : decode cX4_duct 64 = .ok (.ifCond .le 5, 3) := by decide +kernel
theorem dX4_duct_67 : decode cX4_duct 67 = .ok (.iconst 0, 1) := by decide +kernel
theorem dX4_duct_68 : decode cX4_duct 68 = .ok (.ireturn, 1) := by decide +kernel
theorem dX4_duct_69 : decode cX4_duct 69 = .ok (.aload_n 0, 1) := by decide +kernel
theorem dX4_duct_70 : decode cX4_duct 70 = .ok (.dup, 1) := by decide +kernel
theorem dX4_duct_71 : decode cX4_duct 71 = .ok (.getfield 58, 3) := by decide +kernel
theorem dX4_duct_74 : decode cX4_duct 74 = .ok (.iconst 1, 1) := by decide +kernel
theorem dX4_duct_75 : decode cX4_duct 75 = .ok (.iadd, 1) := by decide +kernel
theorem dX4_duct_76 : decode cX4_duct 76 = .ok (.putfield 58, 3) := by decide +kernel
theorem dX4_duct_79 : decode cX4_duct 79 = .ok (.aload_n 0, 1) := by decide +kernel
theorem dX4_duct_80 : decode cX4_duct 80 = .ok (.getfield 7, 3) := by decide +kernel
theorem dX4_duct_83 : decode cX4_duct 83 = .ok (.aload_n 0, 1) := by decide +kernel
theorem dX4_duct_84 : decode cX4_duct 84 = .ok (.getfield 58, 3) := by decide +kernel
theorem dX4_duct_87 : decode cX4_duct 87 = .ok (.iload_n 1, 1) := by decide +kernel
theorem dX4_duct_88 : decode cX4_duct 88 = .ok (.iastore, 1) := by decide +kernel
theorem dX4_duct_89 : decode cX4_duct 89 = .ok (.aload_n 0, 1) := by decide +kernel
theorem dX4_duct_90 : decode cX4_duct 90 = .ok (.getfield 13, 3) := by decide +kernel
theorem dX4_duct_93 : decode cX4_duct 93 = .ok (.aload_n 0, 1) := by decide +kernel
theorem dX4_duct_94 : decode cX4_duct 94 = .ok (.getfield 58, 3) := by decide +kernel
theorem dX4_duct_97 : decode cX4_duct 97 = .ok (.iload_n 2, 1) := by decide +kernel
theorem dX4_duct_98 : decode cX4_duct 98 = .ok (.iastore, 1) := by decide +kernel
theorem dX4_duct_99 : decode cX4_duct 99 = .ok (.aload_n 0, 1) := by decide +kernel
theorem dX4_duct_100 : decode cX4_duct 100 = .ok (.getfield 16, 3) := by decide +kernel
theorem dX4_duct_103 : decode cX4_duct 103 = .ok (.aload_n 0, 1) := by decide +kernel
theorem dX4_duct_104 : decode cX4_duct 104 = .ok (.getfield 58, 3) := by decide +kernel
theorem dX4_duct_107 : decode cX4_duct 107 = .ok (.iload_n 3, 1) := by decide +kernel
theorem dX4_duct_108 : decode cX4_duct 108 = .ok (.iastore, 1) := by decide +kernel
theorem dX4_duct_109 : decode cX4_duct 109 = .ok (.aload_n 0, 1) := by decide +kernel
theorem dX4_duct_110 : decode cX4_duct 110 = .ok (.getfield 19, 3) := by decide +kernel
theorem dX4_duct_113 : decode cX4_duct 113 = .ok (.aload_n 0, 1) := by decide +kernel
theorem dX4_duct_114 : decode cX4_duct 114 = .ok (.getfield 58, 3) := by decide +kernel
theorem dX4_duct_117 : decode cX4_duct 117 = .ok (.iconst 0, 1) := by decide +kernel
theorem dX4_duct_118 : decode cX4_duct 118 = .ok (.iastore, 1) := by decide +kernel
theorem dX4_duct_119 : decode cX4_duct 119 = .ok (.aload_n 0, 1) := by decide +kernel
theorem dX4_duct_120 : decode cX4_duct 120 = .ok (.getfield 58, 3) := by decide +kernel
theorem dX4_duct_123 : decode cX4_duct 123 = .ok (.ireturn, 1) := by decide +kernel
theorem dX4_need_0 : decode cX4_need 0 = .ok (.aload_n 0, 1) := by decide +kernel
theorem dX4_need_1 : decode cX4_need 1 = .ok (.aload_n 0, 1) := by decide +kernel
theorem dX4_need_2 : decode cX4_need 2 = .ok (.iload_n 1, 1) := by decide +kernel
theorem dX4_need_3 : decode cX4_need 3 = .ok (.invokevirtual 69, 3) := by decide +kernel
theorem dX4_need_6 : decode cX4_need 6 = .ok (.ifCond .eq 19, 3) := by decide +kernel
theorem dX4_need_9 : decode cX4_need 9 = .ok (.iload_n 2, 1) := by decide +kernel
theorem dX4_need_10 : decode cX4_need 10 = .ok (.i2l, 1) := by decide +kernel
theorem dX4_need_11 : decode cX4_need 11 = .ok (.lconst 0, 1) := by decide +kernel
theorem dX4_need_12 : decode cX4_need 12 = .ok (.ldc2_w 73, 3) := by decide +kernel
theorem dX4_need_15 : decode cX4_need 15 = .ok (.invokestatic 61, 3) := by decide +kernel
theorem dX4_need_18 : decode cX4_need 18 = .ok (.ifCond .eq 7, 3) := by decide +kernel
theorem dX4_need_21 : decode cX4_need 21 = .ok (.iconst 0, 1) := by decide +kernel
theorem dX4_need_22 : decode cX4_need 22 = .ok (.goto 4, 3) := by decide +kernel
theorem dX4_need_25 : decode cX4_need 25 = .ok (.iconst 1, 1) := by decide +kernel
theorem dX4_need_26 : decode cX4_need 26 = .ok (.putfield 55, 3) := by decide +kernel
theorem dX4_need_29 : decode cX4_need 29 = .ok (.aload_n 0, 1) := by decide +kernel
theorem dX4_need_30 : decode cX4_need 30 = .ok (.getfield 55, 3) := by decide +kernel
theorem dX4_need_33 : decode cX4_need 33 = .ok (.ifCond .le 5, 3) := by decide +kernel
theorem dX4_need_36 : decode cX4_need 36 = .ok (.iconst 0, 1) := by decide +kernel
theorem dX4_need_37 : decode cX4_need 37 = .ok (.ireturn, 1) := by decide +kernel
theorem dX4_need_38 : decode cX4_need 38 = .ok (.aload_n 0, 1) := by decide +kernel
theorem dX4_need_39 : decode cX4_need 39 = .ok (.getfield 19, 3) := by decide +kernel
theorem dX4_need_42 : decode cX4_need 42 = .ok (.iload_n 1, 1) := by decide +kernel
theorem dX4_need_43 : decode cX4_need 43 = .ok (.iaload, 1) := by decide +kernel
theorem dX4_need_44 : decode cX4_need 44 = .ok (.istore_n 3, 1) := by decide +kernel
theorem dX4_need_45 : decode cX4_need 45 = .ok (.aload_n 0, 1) := by decide +kernel
theorem dX4_need_46 : decode cX4_need 46 = .ok (.getfield 19, 3) := by decide +kernel
theorem dX4_need_49 : decode cX4_need 49 = .ok (.iload_n 1, 1) := by decide +kernel
theorem dX4_need_50 : decode cX4_need 50 = .ok (.iload_n 2, 1) := by decide +kernel
theorem dX4_need_51 : decode cX4_need 51 = .ok (.iastore, 1) := by decide +kernel
theorem dX4_need_52 : decode cX4_need 52 = .ok (.iload_n 3, 1) := by decide +kernel
theorem dX4_need_53 : decode cX4_need 53 = .ok (.ireturn, 1) := by decide +kernel
theorem dX4_size_0 : decode cX4_size 0 = .ok (.aload_n 0, 1) := by decide +kernel
theorem dX4_size_1 : decode cX4_size 1 = .ok (.iload_n 1, 1) := by decide +kernel
theorem dX4_size_2 : decode cX4_size 2 = .ok (.i2l, 1) := by decide +kernel
theorem dX4_size_3 : decode cX4_size 3 = .ok (.lconst 1, 1) := by decide +kernel
theorem dX4_size_4 : decode cX4_size 4 = .ok (.ldc2_w 73, 3) := by decide +kernel
theorem dX4_size_7 : decode cX4_size 7 = .ok (.invokestatic 61, 3) := by decide +kernel
theorem dX4_size_10 : decode cX4_size 10 = .ok (.ifCond .eq 15, 3) := by decide +kernel
theorem dX4_size_13 : decode cX4_size 13 = .ok (.iload_n 2, 1) := by decide +kernel
theorem dX4_size_14 : decode cX4_size 14 = .ok (.i2l, 1) := by decide +kernel
theorem dX4_size_15 : decode cX4_size 15 = .ok (.lconst 1, 1) := by decide +kernel
theorem dX4_size_16 : decode cX4_size 16 = .ok (.ldc2_w 73, 3) := by decide +kernel
theorem dX4_size_19 : decode cX4_size 19 = .ok (.invokestatic 61, 3) := by decide +kernel
theorem dX4_size_22 : decode cX4_size 22 = .ok (.ifCond .ne 7, 3) := by decide +kernel
theorem dX4_size_25 : decode cX4_size 25 = .ok (.iconst 1, 1) := by decide +kernel
theorem dX4_size_26 : decode cX4_size 26 = .ok (.goto 16, 3) := by decide +kernel
theorem dX4_size_29 : decode cX4_size 29 = .ok (.aload_n 0, 1) := by decide +kernel
theorem dX4_size_30 : decode cX4_size 30 = .ok (.getfield 75, 3) := by decide +kernel
theorem dX4_size_33 : decode cX4_size 33 = .ok (.iconst 4, 1) := by decide +kernel
theorem dX4_size_34 : decode cX4_size 34 = .ok (.if_icmp .ne 7, 3) := by decide +kernel
theorem dX4_size_37 : decode cX4_size 37 = .ok (.iconst 2, 1) := by decide +kernel
theorem dX4_size_38 : decode cX4_size 38 = .ok (.goto 4, 3) := by decide +kernel
theorem dX4_size_41 : decode cX4_size 41 = .ok (.iconst 0, 1) := by decide +kernel
theorem dX4_size_42 : decode cX4_size 42 = .ok (.putfield 55, 3) := by decide +kernel
theorem dX4_size_45 : decode cX4_size 45 = .ok (.aload_n 0, 1) := by decide +kernel
theorem dX4_size_46 : decode cX4_size 46 = .ok (.getfield 55, 3) := by decide +kernel
theorem dX4_size_49 : decode cX4_size 49 = .ok (.ifCond .le 5, 3) := by decide +kernel
theorem dX4_size_52 : decode cX4_size 52 = .ok (.iconst 0, 1) := by decide +kernel
theorem dX4_size_53 : decode cX4_size 53 = .ok (.ireturn, 1) := by decide +kernel
theorem dX4_size_54 : decode cX4_size 54 = .ok (.aload_n 0, 1) := by decide +kernel
theorem dX4_size_55 : decode cX4_size 55 = .ok (.getfield 22, 3) := by decide +kernel
theorem dX4_size_58 : decode cX4_size 58 = .ok (.aload_n 0, 1) := by decide +kernel
theorem dX4_size_59 : decode cX4_size 59 = .ok (.getfield 75, 3) := by decide +kernel
theorem dX4_size_62 : decode cX4_size 62 = .ok (.iload_n 1, 1) := by decide +kernel
theorem dX4_size_63 : decode cX4_size 63 = .ok (.iastore, 1) := by decide +kernel
theorem dX4_size_64 : decode cX4_size 64 = .ok (.aload_n 0, 1) := by decide +kernel
theorem dX4_size_65 : decode cX4_size 65 = .ok (.getfield 25, 3) := by decide +kernel
theorem dX4_size_68 : decode cX4_size 68 = .ok (.aload_n 0, 1) := by decide +kernel
theorem dX4_size_69 : decode cX4_size 69 = .ok (.getfield 75, 3) := by decide +kernel
theorem dX4_size_72 : decode cX4_size 72 = .ok (.iload_n 2, 1) := by decide +kernel
theorem dX4_size_73 : decode cX4_size 73 = .ok (.iastore, 1) := by decide +kernel
theorem dX4_size_74 : decode cX4_size 74 = .ok (.aload_n 0, 1) := by decide +kernel
theorem dX4_size_75 : decode cX4_size 75 = .ok (.dup, 1) := by decide +kernel
theorem dX4_size_76 : decode cX4_size 76 = .ok (.getfield 75, 3) := by decide +kernel
theorem dX4_size_79 : decode cX4_size 79 = .ok (.iconst 1, 1) := by decide +kernel
theorem dX4_size_80 : decode cX4_size 80 = .ok (.iadd, 1) := by decide +kernel
theorem dX4_size_81 : decode cX4_size 81 = .ok (.putfield 75, 3) := by decide +kernel
theorem dX4_size_84 : decode cX4_size 84 = .ok (.aload_n 0, 1) := by decide +kernel
theorem dX4_size_85 : decode cX4_size 85 = .ok (.getfield 75, 3) := by decide +kernel
theorem dX4_size_88 : decode cX4_size 88 = .ok (.iconst 1, 1) := by decide +kernel
theorem dX4_size_89 : decode cX4_size 89 = .ok (.isub, 1) := by decide +kernel
theorem dX4_size_90 : decode cX4_size 90 = .ok (.ireturn, 1) := by decide +kernel
theorem dX4_set_0 : decode cX4_set 0 = .ok (.aload_n 0, 1) := by decide +kernel
theorem dX4_set_1 : decode cX4_set 1 = .ok (.iload_n 1, 1) := by decide +kernel
theorem dX4_set_2 : decode cX4_set 2 = .ok (.ifCond .ne 15, 3) := by decide +kernel
theorem dX4_set_5 : decode cX4_set 5 = .ok (.iload_n 2, 1) := by decide +kernel
theorem dX4_set_6 : decode cX4_set 6 = .ok (.i2l, 1) := by decide +kernel
theorem dX4_set_7 : decode cX4_set 7 = .ok (.lconst 1, 1) := by decide +kernel
theorem dX4_set_8 : decode cX4_set 8 = .ok (.ldc2_w 78, 3) := by decide +kernel
theorem dX4_set_11 : decode cX4_set 11 = .ok (.invokestatic 61, 3) := by decide +kernel
theorem dX4_set_14 : decode cX4_set 14 = .ok (.ifCond .ne 20, 3) := by decide +kernel
theorem dX4_set_17 : decode cX4_set 17 = .ok (.iload_n 1, 1) := by decide +kernel
theorem dX4_set_18 : decode cX4_set 18 = .ok (.iconst 1, 1) := by decide +kernel
theorem dX4_set_19 : decode cX4_set 19 = .ok (.if_icmp .ne 19, 3) := by decide +kernel
theorem dX4_set_22 : decode cX4_set 22 = .ok (.iload_n 2, 1) := by decide +kernel
theorem dX4_set_23 : decode cX4_set 23 = .ok (.i2l, 1) := by decide +kernel
theorem dX4_set_24 : decode cX4_set 24 = .ok (.lconst 0, 1) := by decide +kernel
theorem dX4_set_25 : decode cX4_set 25 = .ok (.ldc2_w 73, 3) := by decide +kernel
theorem dX4_set_28 : decode cX4_set 28 = .ok (.invokestatic 61, 3) := by decide +kernel
theorem dX4_set_31 : decode cX4_set 31 = .ok (.ifCond .eq 7, 3) := by decide +kernel
theorem dX4_set_34 : decode cX4_set 34 = .ok (.iconst 0, 1) := by decide +kernel
theorem dX4_set_35 : decode cX4_set 35 = .ok (.goto 4, 3) := by decide +kernel
theorem dX4_set_38 : decode cX4_set 38 = .ok (.iconst 1, 1) := by decide +kernel
theorem dX4_set_39 : decode cX4_set 39 = .ok (.putfield 55, 3) := by decide +kernel
theorem dX4_set_42 : decode cX4_set 42 = .ok (.aload_n 0, 1) := by decide +kernel
theorem dX4_set_43 : decode cX4_set 43 = .ok (.getfield 55, 3) := by decide +kernel
theorem dX4_set_46 : decode cX4_set 46 = .ok (.ifCond .le 5, 3) := by decide +kernel
theorem dX4_set_49 : decode cX4_set 49 = .ok (.iconst 0, 1) := by decide +kernel
theorem dX4_set_50 : decode cX4_set 50 = .ok (.ireturn, 1) := by decide +kernel
theorem dX4_set_51 : decode cX4_set 51 = .ok (.iload_n 1, 1) := by decide +kernel
theorem dX4_set_52 : decode cX4_set 52 = .ok (.ifCond .ne 10, 3) := by decide +kernel
theorem dX4_set_55 : decode cX4_set 55 = .ok (.aload_n 0, 1) := by decide +kernel
theorem dX4_set_56 : decode cX4_set 56 = .ok (.getfield 29, 3) := by decide +kernel
theorem dX4_set_59 : decode cX4_set 59 = .ok (.goto 7, 3) := by decide +kernel
theorem dX4_set_62 : decode cX4_set 62 = .ok (.aload_n 0, 1) := by decide +kernel
theorem dX4_set_63 : decode cX4_set 63 = .ok (.getfield 80, 3) := by decide +kernel
theorem dX4_set_66 : decode cX4_set 66 = .ok (.istore_n 3, 1) := by decide +kernel
theorem dX4_set_67 : decode cX4_set 67 = .ok (.aload_n 0, 1) := by decide +kernel
theorem dX4_set_68 : decode cX4_set 68 = .ok (.iload_n 1, 1) := by decide +kernel
theorem dX4_set_69 : decode cX4_set 69 = .ok (.ifCond .ne 7, 3) := by decide +kernel
theorem dX4_set_72 : decode cX4_set 72 = .ok (.iload_n 2, 1) := by decide +kernel
theorem dX4_set_73 : decode cX4_set 73 = .ok (.goto 7, 3) := by decide +kernel
theorem dX4_set_76 : decode cX4_set 76 = .ok (.aload_n 0, 1) := by decide +kernel
theorem dX4_set_77 : decode cX4_set 77 = .ok (.getfield 29, 3) := by decide +kernel
theorem dX4_set_80 : decode cX4_set 80 = .ok (.putfield 29, 3) := by decide +kernel
theorem dX4_set_83 : decode cX4_set 83 = .ok (.aload_n 0, 1) := by decide +kernel
theorem dX4_set_84 : decode cX4_set 84 = .ok (.iload_n 1, 1) := by decide +kernel
theorem dX4_set_85 : decode cX4_set 85 = .ok (.iconst 1, 1) := by decide +kernel
theorem dX4_set_86 : decode cX4_set 86 = .ok (.if_icmp .ne 7, 3) := by decide +kernel
theorem dX4_set_89 : decode cX4_set 89 = .ok (.iload_n 2, 1) := by decide +kernel
theorem dX4_set_90 : decode cX4_set 90 = .ok (.goto 7, 3) := by decide +kernel
theorem dX4_set_93 : decode cX4_set 93 = .ok (.aload_n 0, 1) := by decide +kernel
theorem dX4_set_94 : decode cX4_set 94 = .ok (.getfield 80, 3) := by decide +kernel
theorem dX4_set_97 : decode cX4_set 97 = .ok (.putfield 80, 3) := by decide +kernel
theorem dX4_set_100 : decode cX4_set 100 = .ok (.iload_n 3, 1) := by decide +kernel
theorem dX4_set_101 : decode cX4_set 101 = .ok (.ireturn, 1) := by decide +kernel
theorem dX4_fan_0 : decode cX4_fan 0 = .ok (.aload_n 0, 1) := by decide +kernel
theorem dX4_fan_1 : decode cX4_fan 1 = .ok (.getfield 83, 3) := by decide +kernel
theorem dX4_fan_4 : decode cX4_fan 4 = .ok (.ifCond .le 37, 3) := by decide +kernel
theorem dX4_fan_7 : decode cX4_fan 7 = .ok (.iload_n 1, 1) := by decide +kernel
theorem dX4_fan_8 : decode cX4_fan 8 = .ok (.aload_n 0, 1) := by decide +kernel
theorem dX4_fan_9 : decode cX4_fan 9 = .ok (.getfield 33, 3) := by decide +kernel
theorem dX4_fan_12 : decode cX4_fan 12 = .ok (.aload_n 0, 1) := by decide +kernel
theorem dX4_fan_13 : decode cX4_fan 13 = .ok (.getfield 83, 3) := by decide +kernel
theorem dX4_fan_16 : decode cX4_fan 16 = .ok (.iconst 1, 1) := by decide +kernel
theorem dX4_fan_17 : decode cX4_fan 17 = .ok (.isub, 1) := by decide +kernel
theorem dX4_fan_18 : decode cX4_fan 18 = .ok (.iaload, 1) := by decide +kernel
theorem dX4_fan_19 : decode cX4_fan 19 = .ok (.if_icmp .le 18, 3) := by decide +kernel
theorem dX4_fan_22 : decode cX4_fan 22 = .ok (.iload_n 2, 1) := by decide +kernel
theorem dX4_fan_23 : decode cX4_fan 23 = .ok (.aload_n 0, 1) := by decide +kernel
theorem dX4_fan_24 : decode cX4_fan 24 = .ok (.getfield 36, 3) := by decide +kernel
theorem dX4_fan_27 : decode cX4_fan 27 = .ok (.aload_n 0, 1) := by decide +kernel
theorem dX4_fan_28 : decode cX4_fan 28 = .ok (.getfield 83, 3) := by decide +kernel
theorem dX4_fan_31 : decode cX4_fan 31 = .ok (.iconst 1, 1) := by decide +kernel
theorem dX4_fan_32 : decode cX4_fan 32 = .ok (.isub, 1) := by decide +kernel
theorem dX4_fan_33 : decode cX4_fan 33 = .ok (.iaload, 1) := by decide +kernel
theorem dX4_fan_34 : decode cX4_fan 34 = .ok (.if_icmp .le 7, 3) := by decide +kernel
theorem dX4_fan_37 : decode cX4_fan 37 = .ok (.iconst 1, 1) := by decide +kernel
theorem dX4_fan_38 : decode cX4_fan 38 = .ok (.goto 4, 3) := by decide +kernel
theorem dX4_fan_41 : decode cX4_fan 41 = .ok (.iconst 0, 1) := by decide +kernel
theorem dX4_fan_42 : decode cX4_fan 42 = .ok (.istore_n 3, 1) := by decide +kernel
theorem dX4_fan_43 : decode cX4_fan 43 = .ok (.aload_n 0, 1) := by decide +kernel
theorem dX4_fan_44 : decode cX4_fan 44 = .ok (.iload_n 1, 1) := by decide +kernel
theorem dX4_fan_45 : decode cX4_fan 45 = .ok (.i2l, 1) := by decide +kernel
theorem dX4_fan_46 : decode cX4_fan 46 = .ok (.lconst 0, 1) := by decide +kernel
theorem dX4_fan_47 : decode cX4_fan 47 = .ok (.ldc2_w 86, 3) := by decide +kernel
theorem dX4_fan_50 : decode cX4_fan 50 = .ok (.invokestatic 61, 3) := by decide +kernel
theorem dX4_fan_53 : decode cX4_fan 53 = .ok (.ifCond .eq 15, 3) := by decide +kernel
theorem dX4_fan_56 : decode cX4_fan 56 = .ok (.iload_n 2, 1) := by decide +kernel
theorem dX4_fan_57 : decode cX4_fan 57 = .ok (.i2l, 1) := by decide +kernel
theorem dX4_fan_58 : decode cX4_fan 58 = .ok (.lconst 0, 1) := by decide +kernel
theorem dX4_fan_59 : decode cX4_fan 59 = .ok (.ldc2_w 88, 3) := by decide +kernel
theorem dX4_fan_62 : decode cX4_fan 62 = .ok (.invokestatic 61, 3) := by decide +kernel
theorem dX4_fan_65 : decode cX4_fan 65 = .ok (.ifCond .ne 7, 3) := by decide +kernel
theorem dX4_fan_68 : decode cX4_fan 68 = .ok (.iconst 1, 1) := by decide +kernel
theorem dX4_fan_69 : decode cX4_fan 69 = .ok (.goto 20, 3) := by decide +kernel
theorem dX4_fan_72 : decode cX4_fan 72 = .ok (.aload_n 0, 1) := by decide +kernel
theorem dX4_fan_73 : decode cX4_fan 73 = .ok (.getfield 83, 3) := by decide +kernel
theorem dX4_fan_76 : decode cX4_fan 76 = .ok (.iconst 5, 1) := by decide +kernel
theorem dX4_fan_77 : decode cX4_fan 77 = .ok (.if_icmp .eq 7, 3) := by decide +kernel
theorem dX4_fan_80 : decode cX4_fan 80 = .ok (.iload_n 3, 1) := by decide +kernel
theorem dX4_fan_81 : decode cX4_fan 81 = .ok (.ifCond .eq 7, 3) := by decide +kernel
theorem dX4_fan_84 : decode cX4_fan 84 = .ok (.iconst 2, 1) := by decide +kernel
theorem dX4_fan_85 : decode cX4_fan 85 = .ok (.goto 4, 3) := by decide +kernel
theorem dX4_fan_88 : decode cX4_fan 88 = .ok (.iconst 0, 1) := by decide +kernel
theorem dX4_fan_89 : decode cX4_fan 89 = .ok (.putfield 55, 3) := by decide +kernel
theorem dX4_fan_92 : decode cX4_fan 92 = .ok (.aload_n 0, 1) := by decide +kernel
theorem dX4_fan_93 : decode cX4_fan 93 = .ok (.getfield 55, 3) := by decide +kernel
theorem dX4_fan_96 : decode cX4_fan 96 = .ok (.ifCond .le 5, 3) := by decide +kernel
theorem dX4_fan_99 : decode cX4_fan 99 = .ok (.iconst 0, 1) := by decide +kernel
theorem dX4_fan_100 : decode cX4_fan 100 = .ok (.ireturn, 1) := by decide +kernel
theorem dX4_fan_101 : decode cX4_fan 101 = .ok (.aload_n 0, 1) := by decide +kernel
theorem dX4_fan_102 : decode cX4_fan 102 = .ok (.getfield 33, 3) := by decide +kernel
theorem dX4_fan_105 : decode cX4_fan 105 = .ok (.aload_n 0, 1) := by decide +kernel
theorem dX4_fan_106 : decode cX4_fan 106 = .ok (.getfield 83, 3) := by decide +kernel
theorem dX4_fan_109 : decode cX4_fan 109 = .ok (.iload_n 1, 1) := by decide +kernel
theorem dX4_fan_110 : decode cX4_fan 110 = .ok (.iastore, 1) := by decide +kernel
theorem dX4_fan_111 : decode cX4_fan 111 = .ok (.aload_n 0, 1) := by decide +kernel
theorem dX4_fan_112 : decode cX4_fan 112 = .ok (.getfield 36, 3) := by decide +kernel
theorem dX4_fan_115 : decode cX4_fan 115 = .ok (.aload_n 0, 1) := by decide +kernel
theorem dX4_fan_116 : decode cX4_fan 116 = .ok (.getfield 83, 3) := by decide +kernel
theorem dX4_fan_119 : decode cX4_fan 119 = .ok (.iload_n 2, 1) := by decide +kernel
theorem dX4_fan_120 : decode cX4_fan 120 = .ok (.iastore, 1) := by decide +kernel
theorem dX4_fan_121 : decode cX4_fan 121 = .ok (.aload_n 0, 1) := by decide +kernel
theorem dX4_fan_122 : decode cX4_fan 122 = .ok (.dup, 1) := by decide +kernel
theorem dX4_fan_123 : decode cX4_fan 123 = .ok (.getfield 83, 3) := by decide +kernel
theorem dX4_fan_126 : decode cX4_fan 126 = .ok (.iconst 1, 1) := by decide +kernel
theorem dX4_fan_127 : decode cX4_fan 127 = .ok (.iadd, 1) := by decide +kernel
theorem dX4_fan_128 : decode cX4_fan 128 = .ok (.putfield 83, 3) := by decide +kernel
theorem dX4_fan_131 : decode cX4_fan 131 = .ok (.aload_n 0, 1) := by decide +kernel
theorem dX4_fan_132 : decode cX4_fan 132 = .ok (.getfield 83, 3) := by decide +kernel
theorem dX4_fan_135 : decode cX4_fan 135 = .ok (.ireturn, 1) := by decide +kernel
theorem dX4_given_0 : decode cX4_given 0 = .ok (.aload_n 0, 1) := by decide +kernel
theorem dX4_given_1 : decode cX4_given 1 = .ok (.getfield 83, 3) := by decide +kernel
theorem dX4_given_4 : decode cX4_given 4 = .ok (.ifCond .ne 7, 3) := by decide +kernel
theorem dX4_given_7 : decode cX4_given 7 = .ok (.sipush 300, 3) := by decide +kernel
theorem dX4_given_10 : decode cX4_given 10 = .ok (.ireturn, 1) := by decide +kernel
theorem dX4_given_11 : decode cX4_given 11 = .ok (.iconst 0, 1) := by decide +kernel
theorem dX4_given_12 : decode cX4_given 12 = .ok (.istore_n 1, 1) := by decide +kernel
theorem dX4_given_13 : decode cX4_given 13 = .ok (.iconst 1, 1) := by decide +kernel
theorem dX4_given_14 : decode cX4_given 14 = .ok (.istore_n 2, 1) := by decide +kernel
theorem dX4_given_15 : decode cX4_given 15 = .ok (.iload_n 2, 1) := by decide +kernel
theorem dX4_given_16 : decode cX4_given 16 = .ok (.aload_n 0, 1) := by decide +kernel
theorem dX4_given_17 : decode cX4_given 17 = .ok (.getfield 58, 3) := by decide +kernel
theorem dX4_given_20 : decode cX4_given 20 = .ok (.if_icmp .gt 18, 3) := by decide +kernel
theorem dX4_given_23 : decode cX4_given 23 = .ok (.iload_n 1, 1) := by decide +kernel
theorem dX4_given_24 : decode cX4_given 24 = .ok (.aload_n 0, 1) := by decide +kernel
theorem dX4_given_25 : decode cX4_given 25 = .ok (.getfield 19, 3) := by decide +kernel
theorem dX4_given_28 : decode cX4_given 28 = .ok (.iload_n 2, 1) := by decide +kernel
theorem dX4_given_29 : decode cX4_given 29 = .ok (.iaload, 1) := by decide +kernel
theorem dX4_given_30 : decode cX4_given 30 = .ok (.iadd, 1) := by decide +kernel
theorem dX4_given_31 : decode cX4_given 31 = .ok (.istore_n 1, 1) := by decide +kernel
theorem dX4_given_32 : decode cX4_given 32 = .ok (.iinc 2 1, 3) := by decide +kernel
theorem dX4_given_35 : decode cX4_given 35 = .ok (.goto (-20), 3) := by decide +kernel
theorem dX4_given_38 : decode cX4_given 38 = .ok (.iload_n 1, 1) := by decide +kernel
theorem dX4_given_39 : decode cX4_given 39 = .ok (.aload_n 0, 1) := by decide +kernel
theorem dX4_given_40 : decode cX4_given 40 = .ok (.getfield 33, 3) := by decide +kernel
theorem dX4_given_43 : decode cX4_given 43 = .ok (.iconst 0, 1) := by decide +kernel
theorem dX4_given_44 : decode cX4_given 44 = .ok (.iaload, 1) := by decide +kernel
theorem dX4_given_45 : decode cX4_given 45 = .ok (.if_icmp .gt 10, 3) := by decide +kernel
theorem dX4_given_48 : decode cX4_given 48 = .ok (.aload_n 0, 1) := by decide +kernel
theorem dX4_given_49 : decode cX4_given 49 = .ok (.getfield 36, 3) := by decide +kernel
theorem dX4_given_52 : decode cX4_given 52 = .ok (.iconst 0, 1) := by decide +kernel
theorem dX4_given_53 : decode cX4_given 53 = .ok (.iaload, 1) := by decide +kernel
theorem dX4_given_54 : decode cX4_given 54 = .ok (.ireturn, 1) := by decide +kernel
theorem dX4_given_55 : decode cX4_given 55 = .ok (.iconst 1, 1) := by decide +kernel
theorem dX4_given_56 : decode cX4_given 56 = .ok (.istore_n 2, 1) := by decide +kernel
theorem dX4_given_57 : decode cX4_given 57 = .ok (.iload_n 2, 1) := by decide +kernel
theorem dX4_given_58 : decode cX4_given 58 = .ok (.aload_n 0, 1) := by decide +kernel
theorem dX4_given_59 : decode cX4_given 59 = .ok (.getfield 83, 3) := by decide +kernel
theorem dX4_given_62 : decode cX4_given 62 = .ok (.if_icmp .ge 76, 3) := by decide +kernel
theorem dX4_given_65 : decode cX4_given 65 = .ok (.iload_n 1, 1) := by decide +kernel
theorem dX4_given_66 : decode cX4_given 66 = .ok (.aload_n 0, 1) := by decide +kernel
theorem dX4_given_67 : decode cX4_given 67 = .ok (.getfield 33, 3) := by decide +kernel
theorem dX4_given_70 : decode cX4_given 70 = .ok (.iload_n 2, 1) := by decide +kernel
theorem dX4_given_71 : decode cX4_given 71 = .ok (.iaload, 1) := by decide +kernel
theorem dX4_given_72 : decode cX4_given 72 = .ok (.if_icmp .gt 60, 3) := by decide +kernel
theorem dX4_given_75 : decode cX4_given 75 = .ok (.iload_n 2, 1) := by decide +kernel
theorem dX4_given_76 : decode cX4_given 76 = .ok (.iconst 1, 1) := by decide +kernel
theorem dX4_given_77 : decode cX4_given 77 = .ok (.isub, 1) := by decide +kernel
theorem dX4_given_78 : decode cX4_given 78 = .ok (.istore_n 3, 1) := by decide +kernel
theorem dX4_given_79 : decode cX4_given 79 = .ok (.aload_n 0, 1) := by decide +kernel
theorem dX4_given_80 : decode cX4_given 80 = .ok (.getfield 33, 3) := by decide +kernel
theorem dX4_given_83 : decode cX4_given 83 = .ok (.iload_n 2, 1) := by decide +kernel
theorem dX4_given_84 : decode cX4_given 84 = .ok (.iaload, 1) := by decide +kernel
theorem dX4_given_85 : decode cX4_given 85 = .ok (.aload_n 0, 1) := by decide +kernel
theorem dX4_given_86 : decode cX4_given 86 = .ok (.getfield 33, 3) := by decide +kernel
theorem dX4_given_89 : decode cX4_given 89 = .ok (.iload_n 3, 1) := by decide +kernel
theorem dX4_given_90 : decode cX4_given 90 = .ok (.iaload, 1) := by decide +kernel
theorem dX4_given_91 : decode cX4_given 91 = .ok (.isub, 1) := by decide +kernel
theorem dX4_given_92 : decode cX4_given 92 = .ok (.istore 4, 2) := by decide +kernel
theorem dX4_given_94 : decode cX4_given 94 = .ok (.aload_n 0, 1) := by decide +kernel
theorem dX4_given_95 : decode cX4_given 95 = .ok (.getfield 36, 3) := by decide +kernel
theorem dX4_given_98 : decode cX4_given 98 = .ok (.iload_n 3, 1) := by decide +kernel
theorem dX4_given_99 : decode cX4_given 99 = .ok (.iaload, 1) := by decide +kernel
theorem dX4_given_100 : decode cX4_given 100 = .ok (.aload_n 0, 1) := by decide +kernel
theorem dX4_given_101 : decode cX4_given 101 = .ok (.getfield 36, 3) := by decide +kernel
theorem dX4_given_104 : decode cX4_given 104 = .ok (.iload_n 3, 1) := by decide +kernel
theorem dX4_given_105 : decode cX4_given 105 = .ok (.iaload, 1) := by decide +kernel
theorem dX4_given_106 : decode cX4_given 106 = .ok (.aload_n 0, 1) := by decide +kernel
theorem dX4_given_107 : decode cX4_given 107 = .ok (.getfield 36, 3) := by decide +kernel
theorem dX4_given_110 : decode cX4_given 110 = .ok (.iload_n 2, 1) := by decide +kernel
theorem dX4_given_111 : decode cX4_given 111 = .ok (.iaload, 1) := by decide +kernel
theorem dX4_given_112 : decode cX4_given 112 = .ok (.isub, 1) := by decide +kernel
theorem dX4_given_113 : decode cX4_given 113 = .ok (.iload_n 1, 1) := by decide +kernel
theorem dX4_given_114 : decode cX4_given 114 = .ok (.aload_n 0, 1) := by decide +kernel
theorem dX4_given_115 : decode cX4_given 115 = .ok (.getfield 33, 3) := by decide +kernel
theorem dX4_given_118 : decode cX4_given 118 = .ok (.iload_n 3, 1) := by decide +kernel
theorem dX4_given_119 : decode cX4_given 119 = .ok (.iaload, 1) := by decide +kernel
theorem dX4_given_120 : decode cX4_given 120 = .ok (.isub, 1) := by decide +kernel
theorem dX4_given_121 : decode cX4_given 121 = .ok (.imul, 1) := by decide +kernel
theorem dX4_given_122 : decode cX4_given 122 = .ok (.iload 4, 2) := by decide +kernel
theorem dX4_given_124 : decode cX4_given 124 = .ok (.iadd, 1) := by decide +kernel
theorem dX4_given_125 : decode cX4_given 125 = .ok (.iconst 1, 1) := by decide +kernel
theorem dX4_given_126 : decode cX4_given 126 = .ok (.isub, 1) := by decide +kernel
theorem dX4_given_127 : decode cX4_given 127 = .ok (.iload 4, 2) := by decide +kernel
theorem dX4_given_129 : decode cX4_given 129 = .ok (.idiv, 1) := by decide +kernel
theorem dX4_given_130 : decode cX4_given 130 = .ok (.isub, 1) := by decide +kernel
theorem dX4_given_131 : decode cX4_given 131 = .ok (.ireturn, 1) := by decide +kernel
theorem dX4_given_132 : decode cX4_given 132 = .ok (.iinc 2 1, 3) := by decide +kernel
theorem dX4_given_135 : decode cX4_given 135 = .ok (.goto (-78), 3) := by decide +kernel
theorem dX4_given_138 : decode cX4_given 138 = .ok (.iconst 0, 1) := by decide +kernel
theorem dX4_given_139 : decode cX4_given 139 = .ok (.ireturn, 1) := by decide +kernel
theorem dX4_gives_0 : decode cX4_gives 0 = .ok (.aload_n 0, 1) := by decide +kernel
theorem dX4_gives_1 : decode cX4_gives 1 = .ok (.iconst 0, 1) := by decide +kernel
theorem dX4_gives_2 : decode cX4_gives 2 = .ok (.putfield 55, 3) := by decide +kernel
theorem dX4_gives_5 : decode cX4_gives 5 = .ok (.aload_n 0, 1) := by decide +kernel
theorem dX4_gives_6 : decode cX4_gives 6 = .ok (.invokevirtual 90, 3) := by decide +kernel
theorem dX4_gives_9 : decode cX4_gives 9 = .ok (.ireturn, 1) := by decide +kernel
theorem dX4_isBelow_0 : decode cX4_isBelow 0 = .ok (.iload_n 1, 1) := by decide +kernel
theorem dX4_isBelow_1 : decode cX4_isBelow 1 = .ok (.istore_n 3, 1) := by decide +kernel
theorem dX4_isBelow_2 : decode cX4_isBelow 2 = .ok (.iload_n 3, 1) := by decide +kernel
theorem dX4_isBelow_3 : decode cX4_isBelow 3 = .ok (.ifCond .le 18, 3) := by decide +kernel
theorem dX4_isBelow_6 : decode cX4_isBelow 6 = .ok (.iload_n 3, 1) := by decide +kernel
theorem dX4_isBelow_7 : decode cX4_isBelow 7 = .ok (.iload_n 2, 1) := by decide +kernel
theorem dX4_isBelow_8 : decode cX4_isBelow 8 = .ok (.if_icmp .eq 13, 3) := by decide +kernel
theorem dX4_isBelow_11 : decode cX4_isBelow 11 = .ok (.aload_n 0, 1) := by decide +kernel
theorem dX4_isBelow_12 : decode cX4_isBelow 12 = .ok (.getfield 7, 3) := by decide +kernel
theorem dX4_isBelow_15 : decode cX4_isBelow 15 = .ok (.iload_n 3, 1) := by decide +kernel
theorem dX4_isBelow_16 : decode cX4_isBelow 16 = .ok (.iaload, 1) := by decide +kernel
theorem dX4_isBelow_17 : decode cX4_isBelow 17 = .ok (.istore_n 3, 1) := by decide +kernel
theorem dX4_isBelow_18 : decode cX4_isBelow 18 = .ok (.goto (-16), 3) := by decide +kernel
theorem dX4_isBelow_21 : decode cX4_isBelow 21 = .ok (.iload_n 3, 1) := by decide +kernel
theorem dX4_isBelow_22 : decode cX4_isBelow 22 = .ok (.iload_n 2, 1) := by decide +kernel
theorem dX4_isBelow_23 : decode cX4_isBelow 23 = .ok (.if_icmp .ne 7, 3) := by decide +kernel
theorem dX4_isBelow_26 : decode cX4_isBelow 26 = .ok (.iconst 1, 1) := by decide +kernel
theorem dX4_isBelow_27 : decode cX4_isBelow 27 = .ok (.goto 4, 3) := by decide +kernel
theorem dX4_isBelow_30 : decode cX4_isBelow 30 = .ok (.iconst 0, 1) := by decide +kernel
theorem dX4_isBelow_31 : decode cX4_isBelow 31 = .ok (.ireturn, 1) := by decide +kernel
theorem dX4_flowOf_0 : decode cX4_flowOf 0 = .ok (.lconst 0, 1) := by decide +kernel
theorem dX4_flowOf_1 : decode cX4_flowOf 1 = .ok (.lstore_n 2, 1) := by decide +kernel
theorem dX4_flowOf_2 : decode cX4_flowOf 2 = .ok (.iconst 1, 1) := by decide +kernel
theorem dX4_flowOf_3 : decode cX4_flowOf 3 = .ok (.istore 4, 2) := by decide +kernel
theorem dX4_flowOf_5 : decode cX4_flowOf 5 = .ok (.iload 4, 2) := by decide +kernel
theorem dX4_flowOf_7 : decode cX4_flowOf 7 = .ok (.aload_n 0, 1) := by decide +kernel
theorem dX4_flowOf_8 : decode cX4_flowOf 8 = .ok (.getfield 58, 3) := by decide +kernel
theorem dX4_flowOf_11 : decode cX4_flowOf 11 = .ok (.if_icmp .gt 34, 3) := by decide +kernel
theorem dX4_flowOf_14 : decode cX4_flowOf 14 = .ok (.lload_n 2, 1) := by decide +kernel
theorem dX4_flowOf_15 : decode cX4_flowOf 15 = .ok (.aload_n 0, 1) := by decide +kernel
theorem dX4_flowOf_16 : decode cX4_flowOf 16 = .ok (.iload 4, 2) := by decide +kernel
theorem dX4_flowOf_18 : decode cX4_flowOf 18 = .ok (.iload_n 1, 1) := by decide +kernel
theorem dX4_flowOf_19 : decode cX4_flowOf 19 = .ok (.invokevirtual 94, 3) := by decide +kernel
theorem dX4_flowOf_22 : decode cX4_flowOf 22 = .ok (.ifCond .eq 14, 3) := by decide +kernel
theorem dX4_flowOf_25 : decode cX4_flowOf 25 = .ok (.aload_n 0, 1) := by decide +kernel
theorem dX4_flowOf_26 : decode cX4_flowOf 26 = .ok (.getfield 19, 3) := by decide +kernel
theorem dX4_flowOf_29 : decode cX4_flowOf 29 = .ok (.iload 4, 2) := by decide +kernel
theorem dX4_flowOf_31 : decode cX4_flowOf 31 = .ok (.iaload, 1) := by decide +kernel
theorem dX4_flowOf_32 : decode cX4_flowOf 32 = .ok (.i2l, 1) := by decide +kernel
theorem dX4_flowOf_33 : decode cX4_flowOf 33 = .ok (.goto 4, 3) := by decide +kernel
theorem dX4_flowOf_36 : decode cX4_flowOf 36 = .ok (.lconst 0, 1) := by decide +kernel
theorem dX4_flowOf_37 : decode cX4_flowOf 37 = .ok (.ladd, 1) := by decide +kernel
theorem dX4_flowOf_38 : decode cX4_flowOf 38 = .ok (.lstore_n 2, 1) := by decide +kernel
theorem dX4_flowOf_39 : decode cX4_flowOf 39 = .ok (.iinc 4 1, 3) := by decide +kernel
theorem dX4_flowOf_42 : decode cX4_flowOf 42 = .ok (.goto (-37), 3) := by decide +kernel
theorem dX4_flowOf_45 : decode cX4_flowOf 45 = .ok (.lload_n 2, 1) := by decide +kernel
theorem dX4_flowOf_46 : decode cX4_flowOf 46 = .ok (.lreturn, 1) := by decide +kernel
theorem dX4_flow_0 : decode cX4_flow 0 = .ok (.aload_n 0, 1) := by decide +kernel
theorem dX4_flow_1 : decode cX4_flow 1 = .ok (.aload_n 0, 1) := by decide +kernel
theorem dX4_flow_2 : decode cX4_flow 2 = .ok (.iload_n 1, 1) := by decide +kernel
theorem dX4_flow_3 : decode cX4_flow 3 = .ok (.invokevirtual 69, 3) := by decide +kernel
theorem dX4_flow_6 : decode cX4_flow 6 = .ok (.ifCond .eq 7, 3) := by decide +kernel
theorem dX4_flow_9 : decode cX4_flow 9 = .ok (.iconst 0, 1) := by decide +kernel
theorem dX4_flow_10 : decode cX4_flow 10 = .ok (.goto 4, 3) := by decide +kernel
theorem dX4_flow_13 : decode cX4_flow 13 = .ok (.iconst 1, 1) := by decide +kernel
theorem dX4_flow_14 : decode cX4_flow 14 = .ok (.putfield 55, 3) := by decide +kernel
theorem dX4_flow_17 : decode cX4_flow 17 = .ok (.aload_n 0, 1) := by decide +kernel
theorem dX4_flow_18 : decode cX4_flow 18 = .ok (.getfield 55, 3) := by decide +kernel
theorem dX4_flow_21 : decode cX4_flow 21 = .ok (.ifCond .le 7, 3) := by decide +kernel
theorem dX4_flow_24 : decode cX4_flow 24 = .ok (.iconst 0, 1) := by decide +kernel
theorem dX4_flow_25 : decode cX4_flow 25 = .ok (.goto 9, 3) := by decide +kernel
theorem dX4_flow_28 : decode cX4_flow 28 = .ok (.aload_n 0, 1) := by decide +kernel
theorem dX4_flow_29 : decode cX4_flow 29 = .ok (.iload_n 1, 1) := by decide +kernel
theorem dX4_flow_30 : decode cX4_flow 30 = .ok (.invokevirtual 98, 3) := by decide +kernel
theorem dX4_flow_33 : decode cX4_flow 33 = .ok (.l2i, 1) := by decide +kernel
theorem dX4_flow_34 : decode cX4_flow 34 = .ok (.ireturn, 1) := by decide +kernel
theorem dX4_speedOf_0 : decode cX4_speedOf 0 = .ok (.ldc2_w 65, 3) := by decide +kernel
theorem dX4_speedOf_3 : decode cX4_speedOf 3 = .ok (.aload_n 0, 1) := by decide +kernel
theorem dX4_speedOf_4 : decode cX4_speedOf 4 = .ok (.iload_n 1, 1) := by decide +kernel
theorem dX4_speedOf_5 : decode cX4_speedOf 5 = .ok (.invokevirtual 98, 3) := by decide +kernel
theorem dX4_speedOf_8 : decode cX4_speedOf 8 = .ok (.lmul, 1) := by decide +kernel
theorem dX4_speedOf_9 : decode cX4_speedOf 9 = .ok (.aload_n 0, 1) := by decide +kernel
theorem dX4_speedOf_10 : decode cX4_speedOf 10 = .ok (.getfield 22, 3) := by decide +kernel
theorem dX4_speedOf_13 : decode cX4_speedOf 13 = .ok (.iload_n 2, 1) := by decide +kernel
theorem dX4_speedOf_14 : decode cX4_speedOf 14 = .ok (.iaload, 1) := by decide +kernel
theorem dX4_speedOf_15 : decode cX4_speedOf 15 = .ok (.i2l, 1) := by decide +kernel
theorem dX4_speedOf_16 : decode cX4_speedOf 16 = .ok (.ldiv, 1) := by decide +kernel
theorem dX4_speedOf_17 : decode cX4_speedOf 17 = .ok (.lreturn, 1) := by decide +kernel
theorem dX4_fallOf_0 : decode cX4_fallOf 0 = .ok (.aload_n 0, 1) := by decide +kernel
theorem dX4_fallOf_1 : decode cX4_fallOf 1 = .ok (.iload_n 1, 1) := by decide +kernel
theorem dX4_fallOf_2 : decode cX4_fallOf 2 = .ok (.invokevirtual 98, 3) := by decide +kernel
theorem dX4_fallOf_5 : decode cX4_fallOf 5 = .ok (.lstore_n 3, 1) := by decide +kernel
theorem dX4_fallOf_6 : decode cX4_fallOf 6 = .ok (.aload_n 0, 1) := by decide +kernel
theorem dX4_fallOf_7 : decode cX4_fallOf 7 = .ok (.getfield 13, 3) := by decide +kernel
theorem dX4_fallOf_10 : decode cX4_fallOf 10 = .ok (.iload_n 1, 1) := by decide +kernel
theorem dX4_fallOf_11 : decode cX4_fallOf 11 = .ok (.iaload, 1) := by decide +kernel
theorem dX4_fallOf_12 : decode cX4_fallOf 12 = .ok (.i2l, 1) := by decide +kernel
theorem dX4_fallOf_13 : decode cX4_fallOf 13 = .ok (.ldc2_w 73, 3) := by decide +kernel
theorem dX4_fallOf_16 : decode cX4_fallOf 16 = .ok (.lload_n 3, 1) := by decide +kernel
theorem dX4_fallOf_17 : decode cX4_fallOf 17 = .ok (.lmul, 1) := by decide +kernel
theorem dX4_fallOf_18 : decode cX4_fallOf 18 = .ok (.lload_n 3, 1) := by decide +kernel
theorem dX4_fallOf_19 : decode cX4_fallOf 19 = .ok (.lmul, 1) := by decide +kernel
theorem dX4_fallOf_20 : decode cX4_fallOf 20 = .ok (.aload_n 0, 1) := by decide +kernel
theorem dX4_fallOf_21 : decode cX4_fallOf 21 = .ok (.getfield 22, 3) := by decide +kernel
theorem dX4_fallOf_24 : decode cX4_fallOf 24 = .ok (.iload_n 2, 1) := by decide +kernel
theorem dX4_fallOf_25 : decode cX4_fallOf 25 = .ok (.iaload, 1) := by decide +kernel
theorem dX4_fallOf_26 : decode cX4_fallOf 26 = .ok (.aload_n 0, 1) := by decide +kernel
theorem dX4_fallOf_27 : decode cX4_fallOf 27 = .ok (.getfield 22, 3) := by decide +kernel
theorem dX4_fallOf_30 : decode cX4_fallOf 30 = .ok (.iload_n 2, 1) := by decide +kernel
theorem dX4_fallOf_31 : decode cX4_fallOf 31 = .ok (.iaload, 1) := by decide +kernel
theorem dX4_fallOf_32 : decode cX4_fallOf 32 = .ok (.imul, 1) := by decide +kernel
theorem dX4_fallOf_33 : decode cX4_fallOf 33 = .ok (.i2l, 1) := by decide +kernel
theorem dX4_fallOf_34 : decode cX4_fallOf 34 = .ok (.ldiv, 1) := by decide +kernel
theorem dX4_fallOf_35 : decode cX4_fallOf 35 = .ok (.lmul, 1) := by decide +kernel
theorem dX4_fallOf_36 : decode cX4_fallOf 36 = .ok (.ldc2_w 65, 3) := by decide +kernel
theorem dX4_fallOf_39 : decode cX4_fallOf 39 = .ok (.ldiv, 1) := by decide +kernel
theorem dX4_fallOf_40 : decode cX4_fallOf 40 = .ok (.lstore 5, 2) := by decide +kernel
theorem dX4_fallOf_42 : decode cX4_fallOf 42 = .ok (.lload 5, 2) := by decide +kernel
theorem dX4_fallOf_44 : decode cX4_fallOf 44 = .ok (.ldc2_w 102, 3) := by decide +kernel
theorem dX4_fallOf_47 : decode cX4_fallOf 47 = .ok (.lcmp, 1) := by decide +kernel
theorem dX4_fallOf_48 : decode cX4_fallOf 48 = .ok (.ifCond .ge 8, 3) := by decide +kernel
theorem dX4_fallOf_51 : decode cX4_fallOf 51 = .ok (.lload 5, 2) := by decide +kernel
theorem dX4_fallOf_53 : decode cX4_fallOf 53 = .ok (.goto 6, 3) := by decide +kernel
theorem dX4_fallOf_56 : decode cX4_fallOf 56 = .ok (.ldc2_w 102, 3) := by decide +kernel
theorem dX4_fallOf_59 : decode cX4_fallOf 59 = .ok (.aload_n 0, 1) := by decide +kernel
theorem dX4_fallOf_60 : decode cX4_fallOf 60 = .ok (.getfield 16, 3) := by decide +kernel
theorem dX4_fallOf_63 : decode cX4_fallOf 63 = .ok (.iload_n 1, 1) := by decide +kernel
theorem dX4_fallOf_64 : decode cX4_fallOf 64 = .ok (.iaload, 1) := by decide +kernel
theorem dX4_fallOf_65 : decode cX4_fallOf 65 = .ok (.i2l, 1) := by decide +kernel
theorem dX4_fallOf_66 : decode cX4_fallOf 66 = .ok (.ladd, 1) := by decide +kernel
theorem dX4_fallOf_67 : decode cX4_fallOf 67 = .ok (.lreturn, 1) := by decide +kernel
theorem dX4_told_0 : decode cX4_told 0 = .ok (.aload_n 0, 1) := by decide +kernel
theorem dX4_told_1 : decode cX4_told 1 = .ok (.aload_n 0, 1) := by decide +kernel
theorem dX4_told_2 : decode cX4_told 2 = .ok (.iload_n 1, 1) := by decide +kernel
theorem dX4_told_3 : decode cX4_told 3 = .ok (.invokevirtual 69, 3) := by decide +kernel
theorem dX4_told_6 : decode cX4_told 6 = .ok (.ifCond .eq 33, 3) := by decide +kernel
theorem dX4_told_9 : decode cX4_told 9 = .ok (.iload_n 2, 1) := by decide +kernel
theorem dX4_told_10 : decode cX4_told 10 = .ok (.i2l, 1) := by decide +kernel
theorem dX4_told_11 : decode cX4_told 11 = .ok (.lconst 0, 1) := by decide +kernel
theorem dX4_told_12 : decode cX4_told 12 = .ok (.aload_n 0, 1) := by decide +kernel
theorem dX4_told_13 : decode cX4_told 13 = .ok (.getfield 75, 3) := by decide +kernel
theorem dX4_told_16 : decode cX4_told 16 = .ok (.iconst 1, 1) := by decide +kernel
theorem dX4_told_17 : decode cX4_told 17 = .ok (.isub, 1) := by decide +kernel
theorem dX4_told_18 : decode cX4_told 18 = .ok (.i2l, 1) := by decide +kernel
theorem dX4_told_19 : decode cX4_told 19 = .ok (.invokestatic 61, 3) := by decide +kernel
theorem dX4_told_22 : decode cX4_told 22 = .ok (.ifCond .eq 17, 3) := by decide +kernel
theorem dX4_told_25 : decode cX4_told 25 = .ok (.iload_n 3, 1) := by decide +kernel
theorem dX4_told_26 : decode cX4_told 26 = .ok (.i2l, 1) := by decide +kernel
theorem dX4_told_27 : decode cX4_told 27 = .ok (.lconst 0, 1) := by decide +kernel
theorem dX4_told_28 : decode cX4_told 28 = .ok (.lconst 1, 1) := by decide +kernel
theorem dX4_told_29 : decode cX4_told 29 = .ok (.invokestatic 61, 3) := by decide +kernel
theorem dX4_told_32 : decode cX4_told 32 = .ok (.ifCond .eq 7, 3) := by decide +kernel
theorem dX4_told_35 : decode cX4_told 35 = .ok (.iconst 0, 1) := by decide +kernel
theorem dX4_told_36 : decode cX4_told 36 = .ok (.goto 4, 3) := by decide +kernel
theorem dX4_told_39 : decode cX4_told 39 = .ok (.iconst 1, 1) := by decide +kernel
theorem dX4_told_40 : decode cX4_told 40 = .ok (.putfield 55, 3) := by decide +kernel
theorem dX4_told_43 : decode cX4_told 43 = .ok (.aload_n 0, 1) := by decide +kernel
theorem dX4_told_44 : decode cX4_told 44 = .ok (.getfield 55, 3) := by decide +kernel
theorem dX4_told_47 : decode cX4_told 47 = .ok (.ifCond .le 7, 3) := by decide +kernel
theorem dX4_told_50 : decode cX4_told 50 = .ok (.iconst 0, 1) := by decide +kernel
theorem dX4_told_51 : decode cX4_told 51 = .ok (.goto 23, 3) := by decide +kernel
theorem dX4_told_54 : decode cX4_told 54 = .ok (.iload_n 3, 1) := by decide +kernel
theorem dX4_told_55 : decode cX4_told 55 = .ok (.ifCond .ne 12, 3) := by decide +kernel
theorem dX4_told_58 : decode cX4_told 58 = .ok (.aload_n 0, 1) := by decide +kernel
theorem dX4_told_59 : decode cX4_told 59 = .ok (.iload_n 1, 1) := by decide +kernel
theorem dX4_told_60 : decode cX4_told 60 = .ok (.iload_n 2, 1) := by decide +kernel
theorem dX4_told_61 : decode cX4_told 61 = .ok (.invokevirtual 104, 3) := by decide +kernel
theorem dX4_told_64 : decode cX4_told 64 = .ok (.goto 9, 3) := by decide +kernel
theorem dX4_told_67 : decode cX4_told 67 = .ok (.aload_n 0, 1) := by decide +kernel
theorem dX4_told_68 : decode cX4_told 68 = .ok (.iload_n 1, 1) := by decide +kernel
theorem dX4_told_69 : decode cX4_told 69 = .ok (.iload_n 2, 1) := by decide +kernel
theorem dX4_told_70 : decode cX4_told 70 = .ok (.invokevirtual 108, 3) := by decide +kernel
theorem dX4_told_73 : decode cX4_told 73 = .ok (.l2i, 1) := by decide +kernel
theorem dX4_told_74 : decode cX4_told 74 = .ok (.ireturn, 1) := by decide +kernel
theorem dX4_findFalls_0 : decode cX4_findFalls 0 = .ok (.iconst 1, 1) := by decide +kernel
theorem dX4_findFalls_1 : decode cX4_findFalls 1 = .ok (.istore_n 1, 1) := by decide +kernel
theorem dX4_findFalls_2 : decode cX4_findFalls 2 = .ok (.iload_n 1, 1) := by decide +kernel
theorem dX4_findFalls_3 : decode cX4_findFalls 3 = .ok (.aload_n 0, 1) := by decide +kernel
theorem dX4_findFalls_4 : decode cX4_findFalls 4 = .ok (.getfield 58, 3) := by decide +kernel
theorem dX4_findFalls_7 : decode cX4_findFalls 7 = .ok (.if_icmp .gt 62, 3) := by decide +kernel
theorem dX4_findFalls_10 : decode cX4_findFalls 10 = .ok (.iconst 0, 1) := by decide +kernel
theorem dX4_findFalls_11 : decode cX4_findFalls 11 = .ok (.istore_n 2, 1) := by decide +kernel
theorem dX4_findFalls_12 : decode cX4_findFalls 12 = .ok (.iload_n 2, 1) := by decide +kernel
theorem dX4_findFalls_13 : decode cX4_findFalls 13 = .ok (.aload_n 0, 1) := by decide +kernel
theorem dX4_findFalls_14 : decode cX4_findFalls 14 = .ok (.getfield 75, 3) := by decide +kernel
theorem dX4_findFalls_17 : decode cX4_findFalls 17 = .ok (.if_icmp .ge 46, 3) := by decide +kernel
theorem dX4_findFalls_20 : decode cX4_findFalls 20 = .ok (.aload_n 0, 1) := by decide +kernel
theorem dX4_findFalls_21 : decode cX4_findFalls 21 = .ok (.getfield 52, 3) := by decide +kernel
theorem dX4_findFalls_24 : decode cX4_findFalls 24 = .ok (.iconst 4, 1) := by decide +kernel
theorem dX4_findFalls_25 : decode cX4_findFalls 25 = .ok (.iload_n 1, 1) := by decide +kernel
theorem dX4_findFalls_26 : decode cX4_findFalls 26 = .ok (.imul, 1) := by decide +kernel
theorem dX4_findFalls_27 : decode cX4_findFalls 27 = .ok (.iload_n 2, 1) := by decide +kernel
theorem dX4_findFalls_28 : decode cX4_findFalls 28 = .ok (.iadd, 1) := by decide +kernel
theorem dX4_findFalls_29 : decode cX4_findFalls 29 = .ok (.aload_n 0, 1) := by decide +kernel
theorem dX4_findFalls_30 : decode cX4_findFalls 30 = .ok (.iload_n 1, 1) := by decide +kernel
theorem dX4_findFalls_31 : decode cX4_findFalls 31 = .ok (.iload_n 2, 1) := by decide +kernel
theorem dX4_findFalls_32 : decode cX4_findFalls 32 = .ok (.invokevirtual 104, 3) := by decide +kernel
theorem dX4_findFalls_35 : decode cX4_findFalls 35 = .ok (.aload_n 0, 1) := by decide +kernel
theorem dX4_findFalls_36 : decode cX4_findFalls 36 = .ok (.getfield 29, 3) := by decide +kernel
theorem dX4_findFalls_39 : decode cX4_findFalls 39 = .ok (.i2l, 1) := by decide +kernel
theorem dX4_findFalls_40 : decode cX4_findFalls 40 = .ok (.lcmp, 1) := by decide +kernel
theorem dX4_findFalls_41 : decode cX4_findFalls 41 = .ok (.ifCond .gt 12, 3) := by decide +kernel
theorem dX4_findFalls_44 : decode cX4_findFalls 44 = .ok (.aload_n 0, 1) := by decide +kernel
theorem dX4_findFalls_45 : decode cX4_findFalls 45 = .ok (.iload_n 1, 1) := by decide +kernel
theorem dX4_findFalls_46 : decode cX4_findFalls 46 = .ok (.iload_n 2, 1) := by decide +kernel
theorem dX4_findFalls_47 : decode cX4_findFalls 47 = .ok (.invokevirtual 108, 3) := by decide +kernel
theorem dX4_findFalls_50 : decode cX4_findFalls 50 = .ok (.goto 6, 3) := by decide +kernel
theorem dX4_findFalls_53 : decode cX4_findFalls 53 = .ok (.ldc2_w 111, 3) := by decide +kernel
theorem dX4_findFalls_56 : decode cX4_findFalls 56 = .ok (.lastore, 1) := by decide +kernel
theorem dX4_findFalls_57 : decode cX4_findFalls 57 = .ok (.iinc 2 1, 3) := by decide +kernel
theorem dX4_findFalls_60 : decode cX4_findFalls 60 = .ok (.goto (-48), 3) := by decide +kernel
theorem dX4_findFalls_63 : decode cX4_findFalls 63 = .ok (.iinc 1 1, 3) := by decide +kernel
theorem dX4_findFalls_66 : decode cX4_findFalls 66 = .ok (.goto (-64), 3) := by decide +kernel
theorem dX4_findFalls_69 : decode cX4_findFalls 69 = .ok (.return_, 1) := by decide +kernel
theorem dX4_ways_0 : decode cX4_ways 0 = .ok (.iconst 1, 1) := by decide +kernel
theorem dX4_ways_1 : decode cX4_ways 1 = .ok (.istore_n 1, 1) := by decide +kernel
theorem dX4_ways_2 : decode cX4_ways 2 = .ok (.iconst 1, 1) := by decide +kernel
theorem dX4_ways_3 : decode cX4_ways 3 = .ok (.istore_n 2, 1) := by decide +kernel
theorem dX4_ways_4 : decode cX4_ways 4 = .ok (.iload_n 2, 1) := by decide +kernel
theorem dX4_ways_5 : decode cX4_ways 5 = .ok (.aload_n 0, 1) := by decide +kernel
theorem dX4_ways_6 : decode cX4_ways 6 = .ok (.getfield 58, 3) := by decide +kernel
theorem dX4_ways_9 : decode cX4_ways 9 = .ok (.if_icmp .gt 16, 3) := by decide +kernel
theorem dX4_ways_12 : decode cX4_ways 12 = .ok (.iload_n 1, 1) := by decide +kernel
theorem dX4_ways_13 : decode cX4_ways 13 = .ok (.aload_n 0, 1) := by decide +kernel
theorem dX4_ways_14 : decode cX4_ways 14 = .ok (.getfield 75, 3) := by decide +kernel
theorem dX4_ways_17 : decode cX4_ways 17 = .ok (.imul, 1) := by decide +kernel
theorem dX4_ways_18 : decode cX4_ways 18 = .ok (.istore_n 1, 1) := by decide +kernel
theorem dX4_ways_19 : decode cX4_ways 19 = .ok (.iinc 2 1, 3) := by decide +kernel
theorem dX4_ways_22 : decode cX4_ways 22 = .ok (.goto (-18), 3) := by decide +kernel
theorem dX4_ways_25 : decode cX4_ways 25 = .ok (.iload_n 1, 1) := by decide +kernel
theorem dX4_ways_26 : decode cX4_ways 26 = .ok (.ireturn, 1) := by decide +kernel
theorem dX4_look_0 : decode cX4_look 0 = .ok (.iload_n 1, 1) := by decide +kernel
theorem dX4_look_1 : decode cX4_look 1 = .ok (.istore_n 2, 1) := by decide +kernel
theorem dX4_look_2 : decode cX4_look 2 = .ok (.aload_n 0, 1) := by decide +kernel
theorem dX4_look_3 : decode cX4_look 3 = .ok (.getfield 58, 3) := by decide +kernel
theorem dX4_look_6 : decode cX4_look 6 = .ok (.istore_n 3, 1) := by decide +kernel
theorem dX4_look_7 : decode cX4_look 7 = .ok (.iload_n 3, 1) := by decide +kernel
theorem dX4_look_8 : decode cX4_look 8 = .ok (.ifCond .le 28, 3) := by decide +kernel
theorem dX4_look_11 : decode cX4_look 11 = .ok (.aload_n 0, 1) := by decide +kernel
theorem dX4_look_12 : decode cX4_look 12 = .ok (.getfield 39, 3) := by decide +kernel
theorem dX4_look_15 : decode cX4_look 15 = .ok (.iload_n 3, 1) := by decide +kernel
theorem dX4_look_16 : decode cX4_look 16 = .ok (.iload_n 2, 1) := by decide +kernel
theorem dX4_look_17 : decode cX4_look 17 = .ok (.aload_n 0, 1) := by decide +kernel
theorem dX4_look_18 : decode cX4_look 18 = .ok (.getfield 75, 3) := by decide +kernel
theorem dX4_look_21 : decode cX4_look 21 = .ok (.irem, 1) := by decide +kernel
theorem dX4_look_22 : decode cX4_look 22 = .ok (.iastore, 1) := by decide +kernel
theorem dX4_look_23 : decode cX4_look 23 = .ok (.iload_n 2, 1) := by decide +kernel
theorem dX4_look_24 : decode cX4_look 24 = .ok (.aload_n 0, 1) := by decide +kernel
theorem dX4_look_25 : decode cX4_look 25 = .ok (.getfield 75, 3) := by decide +kernel
theorem dX4_look_28 : decode cX4_look 28 = .ok (.idiv, 1) := by decide +kernel
theorem dX4_look_29 : decode cX4_look 29 = .ok (.istore_n 2, 1) := by decide +kernel
theorem dX4_look_30 : decode cX4_look 30 = .ok (.iinc 3 (-1), 3) := by decide +kernel
theorem dX4_look_33 : decode cX4_look 33 = .ok (.goto (-26), 3) := by decide +kernel
theorem dX4_look_36 : decode cX4_look 36 = .ok (.lconst 0, 1) := by decide +kernel
theorem dX4_look_37 : decode cX4_look 37 = .ok (.lstore_n 3, 1) := by decide +kernel
theorem dX4_look_38 : decode cX4_look 38 = .ok (.iconst 1, 1) := by decide +kernel
theorem dX4_look_39 : decode cX4_look 39 = .ok (.istore 5, 2) := by decide +kernel
theorem dX4_look_41 : decode cX4_look 41 = .ok (.iload 5, 2) := by decide +kernel
theorem dX4_look_43 : decode cX4_look 43 = .ok (.aload_n 0, 1) := by decide +kernel
theorem dX4_look_44 : decode cX4_look 44 = .ok (.getfield 58, 3) := by decide +kernel
theorem dX4_look_47 : decode cX4_look 47 = .ok (.if_icmp .gt 85, 3) := by decide +kernel
theorem dX4_look_50 : decode cX4_look 50 = .ok (.aload_n 0, 1) := by decide +kernel
theorem dX4_look_51 : decode cX4_look 51 = .ok (.getfield 52, 3) := by decide +kernel
theorem dX4_look_54 : decode cX4_look 54 = .ok (.iconst 4, 1) := by decide +kernel
theorem dX4_look_55 : decode cX4_look 55 = .ok (.iload 5, 2) := by decide +kernel
theorem dX4_look_57 : decode cX4_look 57 = .ok (.imul, 1) := by decide +kernel
theorem dX4_look_58 : decode cX4_look 58 = .ok (.aload_n 0, 1) := by decide +kernel
theorem dX4_look_59 : decode cX4_look 59 = .ok (.getfield 39, 3) := by decide +kernel
theorem dX4_look_62 : decode cX4_look 62 = .ok (.iload 5, 2) := by decide +kernel
theorem dX4_look_64 : decode cX4_look 64 = .ok (.iaload, 1) := by decide +kernel
theorem dX4_look_65 : decode cX4_look 65 = .ok (.iadd, 1) := by decide +kernel
theorem dX4_look_66 : decode cX4_look 66 = .ok (.laload, 1) := by decide +kernel
theorem dX4_look_67 : decode cX4_look 67 = .ok (.lstore 6, 2) := by decide +kernel
theorem dX4_look_69 : decode cX4_look 69 = .ok (.lload 6, 2) := by decide +kernel
theorem dX4_look_71 : decode cX4_look 71 = .ok (.lconst 0, 1) := by decide +kernel
theorem dX4_look_72 : decode cX4_look 72 = .ok (.lcmp, 1) := by decide +kernel
theorem dX4_look_73 : decode cX4_look 73 = .ok (.ifCond .ge 7, 3) := by decide +kernel
theorem dX4_look_76 : decode cX4_look 76 = .ok (.ldc2_w 111, 3) := by decide +kernel
theorem dX4_look_79 : decode cX4_look 79 = .ok (.lreturn, 1) := by decide +kernel
theorem dX4_look_80 : decode cX4_look 80 = .ok (.aload_n 0, 1) := by decide +kernel
theorem dX4_look_81 : decode cX4_look 81 = .ok (.getfield 42, 3) := by decide +kernel
theorem dX4_look_84 : decode cX4_look 84 = .ok (.iload 5, 2) := by decide +kernel
theorem dX4_look_86 : decode cX4_look 86 = .ok (.aload_n 0, 1) := by decide +kernel
theorem dX4_look_87 : decode cX4_look 87 = .ok (.getfield 42, 3) := by decide +kernel
theorem dX4_look_90 : decode cX4_look 90 = .ok (.aload_n 0, 1) := by decide +kernel
theorem dX4_look_91 : decode cX4_look 91 = .ok (.getfield 7, 3) := by decide +kernel
theorem dX4_look_94 : decode cX4_look 94 = .ok (.iload 5, 2) := by decide +kernel
theorem dX4_look_96 : decode cX4_look 96 = .ok (.iaload, 1) := by decide +kernel
theorem dX4_look_97 : decode cX4_look 97 = .ok (.laload, 1) := by decide +kernel
theorem dX4_look_98 : decode cX4_look 98 = .ok (.lload 6, 2) := by decide +kernel
theorem dX4_look_100 : decode cX4_look 100 = .ok (.ladd, 1) := by decide +kernel
theorem dX4_look_101 : decode cX4_look 101 = .ok (.lastore, 1) := by decide +kernel
theorem dX4_look_102 : decode cX4_look 102 = .ok (.aload_n 0, 1) := by decide +kernel
theorem dX4_look_103 : decode cX4_look 103 = .ok (.getfield 42, 3) := by decide +kernel
theorem dX4_look_106 : decode cX4_look 106 = .ok (.iload 5, 2) := by decide +kernel
theorem dX4_look_108 : decode cX4_look 108 = .ok (.laload, 1) := by decide +kernel
theorem dX4_look_109 : decode cX4_look 109 = .ok (.lload_n 3, 1) := by decide +kernel
theorem dX4_look_110 : decode cX4_look 110 = .ok (.lcmp, 1) := by decide +kernel
theorem dX4_look_111 : decode cX4_look 111 = .ok (.ifCond .le 13, 3) := by decide +kernel
theorem dX4_look_114 : decode cX4_look 114 = .ok (.aload_n 0, 1) := by decide +kernel
theorem dX4_look_115 : decode cX4_look 115 = .ok (.getfield 42, 3) := by decide +kernel
theorem dX4_look_118 : decode cX4_look 118 = .ok (.iload 5, 2) := by decide +kernel
theorem dX4_look_120 : decode cX4_look 120 = .ok (.laload, 1) := by decide +kernel
theorem dX4_look_121 : decode cX4_look 121 = .ok (.goto 4, 3) := by decide +kernel
theorem dX4_look_124 : decode cX4_look 124 = .ok (.lload_n 3, 1) := by decide +kernel
theorem dX4_look_125 : decode cX4_look 125 = .ok (.lstore_n 3, 1) := by decide +kernel
theorem dX4_look_126 : decode cX4_look 126 = .ok (.iinc 5 1, 3) := by decide +kernel
theorem dX4_look_129 : decode cX4_look 129 = .ok (.goto (-88), 3) := by decide +kernel
theorem dX4_look_132 : decode cX4_look 132 = .ok (.lload_n 3, 1) := by decide +kernel
theorem dX4_look_133 : decode cX4_look 133 = .ok (.lreturn, 1) := by decide +kernel
theorem dX4_price_0 : decode cX4_price 0 = .ok (.lconst 0, 1) := by decide +kernel
theorem dX4_price_1 : decode cX4_price 1 = .ok (.lstore_n 1, 1) := by decide +kernel
theorem dX4_price_2 : decode cX4_price 2 = .ok (.iconst 1, 1) := by decide +kernel
theorem dX4_price_3 : decode cX4_price 3 = .ok (.istore_n 3, 1) := by decide +kernel
theorem dX4_price_4 : decode cX4_price 4 = .ok (.iload_n 3, 1) := by decide +kernel
theorem dX4_price_5 : decode cX4_price 5 = .ok (.aload_n 0, 1) := by decide +kernel
theorem dX4_price_6 : decode cX4_price 6 = .ok (.getfield 58, 3) := by decide +kernel
theorem dX4_price_9 : decode cX4_price 9 = .ok (.if_icmp .gt 31, 3) := by decide +kernel
theorem dX4_price_12 : decode cX4_price 12 = .ok (.lload_n 1, 1) := by decide +kernel
theorem dX4_price_13 : decode cX4_price 13 = .ok (.aload_n 0, 1) := by decide +kernel
theorem dX4_price_14 : decode cX4_price 14 = .ok (.getfield 13, 3) := by decide +kernel
theorem dX4_price_17 : decode cX4_price 17 = .ok (.iload_n 3, 1) := by decide +kernel
theorem dX4_price_18 : decode cX4_price 18 = .ok (.iaload, 1) := by decide +kernel
theorem dX4_price_19 : decode cX4_price 19 = .ok (.aload_n 0, 1) := by decide +kernel
theorem dX4_price_20 : decode cX4_price 20 = .ok (.getfield 25, 3) := by decide +kernel
theorem dX4_price_23 : decode cX4_price 23 = .ok (.aload_n 0, 1) := by decide +kernel
theorem dX4_price_24 : decode cX4_price 24 = .ok (.getfield 39, 3) := by decide +kernel
theorem dX4_price_27 : decode cX4_price 27 = .ok (.iload_n 3, 1) := by decide +kernel
theorem dX4_price_28 : decode cX4_price 28 = .ok (.iaload, 1) := by decide +kernel
theorem dX4_price_29 : decode cX4_price 29 = .ok (.iaload, 1) := by decide +kernel
theorem dX4_price_30 : decode cX4_price 30 = .ok (.imul, 1) := by decide +kernel
theorem dX4_price_31 : decode cX4_price 31 = .ok (.i2l, 1) := by decide +kernel
theorem dX4_price_32 : decode cX4_price 32 = .ok (.ladd, 1) := by decide +kernel
theorem dX4_price_33 : decode cX4_price 33 = .ok (.lstore_n 1, 1) := by decide +kernel
theorem dX4_price_34 : decode cX4_price 34 = .ok (.iinc 3 1, 3) := by decide +kernel
theorem dX4_price_37 : decode cX4_price 37 = .ok (.goto (-33), 3) := by decide +kernel
theorem dX4_price_40 : decode cX4_price 40 = .ok (.lload_n 1, 1) := by decide +kernel
theorem dX4_price_41 : decode cX4_price 41 = .ok (.lreturn, 1) := by decide +kernel
theorem dX4_findBest_0 : decode cX4_findBest 0 = .ok (.aload_n 0, 1) := by decide +kernel
theorem dX4_findBest_1 : decode cX4_findBest 1 = .ok (.iconst 0, 1) := by decide +kernel
theorem dX4_findBest_2 : decode cX4_findBest 2 = .ok (.putfield 113, 3) := by decide +kernel
theorem dX4_findBest_5 : decode cX4_findBest 5 = .ok (.aload_n 0, 1) := by decide +kernel
theorem dX4_findBest_6 : decode cX4_findBest 6 = .ok (.invokevirtual 117, 3) := by decide +kernel
theorem dX4_findBest_9 : decode cX4_findBest 9 = .ok (.aload_n 0, 1) := by decide +kernel
theorem dX4_findBest_10 : decode cX4_findBest 10 = .ok (.invokevirtual 90, 3) := by decide +kernel
theorem dX4_findBest_13 : decode cX4_findBest 13 = .ok (.sipush 300, 3) := by decide +kernel
theorem dX4_findBest_16 : decode cX4_findBest 16 = .ok (.if_icmp .ge 10, 3) := by decide +kernel
theorem dX4_findBest_19 : decode cX4_findBest 19 = .ok (.aload_n 0, 1) := by decide +kernel
theorem dX4_findBest_20 : decode cX4_findBest 20 = .ok (.invokevirtual 90, 3) := by decide +kernel
theorem dX4_findBest_23 : decode cX4_findBest 23 = .ok (.goto 6, 3) := by decide +kernel
theorem dX4_findBest_26 : decode cX4_findBest 26 = .ok (.sipush 300, 3) := by decide +kernel
theorem dX4_findBest_29 : decode cX4_findBest 29 = .ok (.istore_n 1, 1) := by decide +kernel
theorem dX4_findBest_30 : decode cX4_findBest 30 = .ok (.aload_n 0, 1) := by decide +kernel
theorem dX4_findBest_31 : decode cX4_findBest 31 = .ok (.invokevirtual 120, 3) := by decide +kernel
theorem dX4_findBest_34 : decode cX4_findBest 34 = .ok (.istore_n 2, 1) := by decide +kernel
theorem dX4_findBest_35 : decode cX4_findBest 35 = .ok (.iconst 0, 1) := by decide +kernel
theorem dX4_findBest_36 : decode cX4_findBest 36 = .ok (.istore_n 3, 1) := by decide +kernel
theorem dX4_findBest_37 : decode cX4_findBest 37 = .ok (.iload_n 3, 1) := by decide +kernel
theorem dX4_findBest_38 : decode cX4_findBest 38 = .ok (.iload_n 2, 1) := by decide +kernel
theorem dX4_findBest_39 : decode cX4_findBest 39 = .ok (.if_icmp .ge 169, 3) := by decide +kernel
theorem dX4_findBest_42 : decode cX4_findBest 42 = .ok (.aload_n 0, 1) := by decide +kernel
theorem dX4_findBest_43 : decode cX4_findBest 43 = .ok (.iload_n 3, 1) := by decide +kernel
theorem dX4_findBest_44 : decode cX4_findBest 44 = .ok (.invokevirtual 123, 3) := by decide +kernel
theorem dX4_findBest_47 : decode cX4_findBest 47 = .ok (.lstore 4, 2) := by decide +kernel
theorem dX4_findBest_49 : decode cX4_findBest 49 = .ok (.lload 4, 2) := by decide +kernel
theorem dX4_findBest_51 : decode cX4_findBest 51 = .ok (.lconst 0, 1) := by decide +kernel
theorem dX4_findBest_52 : decode cX4_findBest 52 = .ok (.lcmp, 1) := by decide +kernel
theorem dX4_findBest_53 : decode cX4_findBest 53 = .ok (.ifCond .ge 7, 3) := by decide +kernel
theorem dX4_findBest_56 : decode cX4_findBest 56 = .ok (.lconst 0, 1) := by decide +kernel
theorem dX4_findBest_57 : decode cX4_findBest 57 = .ok (.goto 16, 3) := by decide +kernel
theorem dX4_findBest_60 : decode cX4_findBest 60 = .ok (.aload_n 0, 1) := by decide +kernel
theorem dX4_findBest_61 : decode cX4_findBest 61 = .ok (.invokevirtual 126, 3) := by decide +kernel
theorem dX4_findBest_64 : decode cX4_findBest 64 = .ok (.aload_n 0, 1) := by decide +kernel
theorem dX4_findBest_65 : decode cX4_findBest 65 = .ok (.getfield 80, 3) := by decide +kernel
theorem dX4_findBest_68 : decode cX4_findBest 68 = .ok (.i2l, 1) := by decide +kernel
theorem dX4_findBest_69 : decode cX4_findBest 69 = .ok (.lload 4, 2) := by decide +kernel
theorem dX4_findBest_71 : decode cX4_findBest 71 = .ok (.lmul, 1) := by decide +kernel
theorem dX4_findBest_72 : decode cX4_findBest 72 = .ok (.ladd, 1) := by decide +kernel
theorem dX4_findBest_73 : decode cX4_findBest 73 = .ok (.lstore 6, 2) := by decide +kernel
theorem dX4_findBest_75 : decode cX4_findBest 75 = .ok (.lload 4, 2) := by decide +kernel
theorem dX4_findBest_77 : decode cX4_findBest 77 = .ok (.lconst 0, 1) := by decide +kernel
theorem dX4_findBest_78 : decode cX4_findBest 78 = .ok (.lcmp, 1) := by decide +kernel
theorem dX4_findBest_79 : decode cX4_findBest 79 = .ok (.ifCond .lt 15, 3) := by decide +kernel
theorem dX4_findBest_82 : decode cX4_findBest 82 = .ok (.lload 4, 2) := by decide +kernel
theorem dX4_findBest_84 : decode cX4_findBest 84 = .ok (.iload_n 1, 1) := by decide +kernel
theorem dX4_findBest_85 : decode cX4_findBest 85 = .ok (.i2l, 1) := by decide +kernel
theorem dX4_findBest_86 : decode cX4_findBest 86 = .ok (.lcmp, 1) := by decide +kernel
theorem dX4_findBest_87 : decode cX4_findBest 87 = .ok (.ifCond .gt 7, 3) := by decide +kernel
theorem dX4_findBest_90 : decode cX4_findBest 90 = .ok (.iconst 1, 1) := by decide +kernel
theorem dX4_findBest_91 : decode cX4_findBest 91 = .ok (.goto 4, 3) := by decide +kernel
theorem dX4_findBest_94 : decode cX4_findBest 94 = .ok (.iconst 0, 1) := by decide +kernel
theorem dX4_findBest_95 : decode cX4_findBest 95 = .ok (.istore 8, 2) := by decide +kernel
theorem dX4_findBest_97 : decode cX4_findBest 97 = .ok (.iload 8, 2) := by decide +kernel
theorem dX4_findBest_99 : decode cX4_findBest 99 = .ok (.ifCond .eq 103, 3) := by decide +kernel
theorem dX4_findBest_102 : decode cX4_findBest 102 = .ok (.aload_n 0, 1) := by decide +kernel
theorem dX4_findBest_103 : decode cX4_findBest 103 = .ok (.getfield 113, 3) := by decide +kernel
theorem dX4_findBest_106 : decode cX4_findBest 106 = .ok (.ifCond .eq 33, 3) := by decide +kernel
theorem dX4_findBest_109 : decode cX4_findBest 109 = .ok (.lload 6, 2) := by decide +kernel
theorem dX4_findBest_111 : decode cX4_findBest 111 = .ok (.aload_n 0, 1) := by decide +kernel
theorem dX4_findBest_112 : decode cX4_findBest 112 = .ok (.getfield 130, 3) := by decide +kernel
theorem dX4_findBest_115 : decode cX4_findBest 115 = .ok (.lcmp, 1) := by decide +kernel
theorem dX4_findBest_116 : decode cX4_findBest 116 = .ok (.ifCond .lt 23, 3) := by decide +kernel
theorem dX4_findBest_119 : decode cX4_findBest 119 = .ok (.lload 6, 2) := by decide +kernel
theorem dX4_findBest_121 : decode cX4_findBest 121 = .ok (.aload_n 0, 1) := by decide +kernel
theorem dX4_findBest_122 : decode cX4_findBest 122 = .ok (.getfield 130, 3) := by decide +kernel
theorem dX4_findBest_125 : decode cX4_findBest 125 = .ok (.lcmp, 1) := by decide +kernel
theorem dX4_findBest_126 : decode cX4_findBest 126 = .ok (.ifCond .ne 76, 3) := by decide +kernel
theorem dX4_findBest_129 : decode cX4_findBest 129 = .ok (.lload 4, 2) := by decide +kernel
theorem dX4_findBest_131 : decode cX4_findBest 131 = .ok (.aload_n 0, 1) := by decide +kernel
theorem dX4_findBest_132 : decode cX4_findBest 132 = .ok (.getfield 134, 3) := by decide +kernel
theorem dX4_findBest_135 : decode cX4_findBest 135 = .ok (.lcmp, 1) := by decide +kernel
theorem dX4_findBest_136 : decode cX4_findBest 136 = .ok (.ifCond .ge 66, 3) := by decide +kernel
theorem dX4_findBest_139 : decode cX4_findBest 139 = .ok (.aload_n 0, 1) := by decide +kernel
theorem dX4_findBest_140 : decode cX4_findBest 140 = .ok (.iconst 1, 1) := by decide +kernel
theorem dX4_findBest_141 : decode cX4_findBest 141 = .ok (.putfield 113, 3) := by decide +kernel
theorem dX4_findBest_144 : decode cX4_findBest 144 = .ok (.aload_n 0, 1) := by decide +kernel
theorem dX4_findBest_145 : decode cX4_findBest 145 = .ok (.lload 6, 2) := by decide +kernel
theorem dX4_findBest_147 : decode cX4_findBest 147 = .ok (.putfield 130, 3) := by decide +kernel
theorem dX4_findBest_150 : decode cX4_findBest 150 = .ok (.aload_n 0, 1) := by decide +kernel
theorem dX4_findBest_151 : decode cX4_findBest 151 = .ok (.lload 4, 2) := by decide +kernel
theorem dX4_findBest_153 : decode cX4_findBest 153 = .ok (.putfield 134, 3) := by decide +kernel
theorem dX4_findBest_156 : decode cX4_findBest 156 = .ok (.iconst 1, 1) := by decide +kernel
theorem dX4_findBest_157 : decode cX4_findBest 157 = .ok (.istore 9, 2) := by decide +kernel
theorem dX4_findBest_159 : decode cX4_findBest 159 = .ok (.iload 9, 2) := by decide +kernel
theorem dX4_findBest_161 : decode cX4_findBest 161 = .ok (.aload_n 0, 1) := by decide +kernel
theorem dX4_findBest_162 : decode cX4_findBest 162 = .ok (.getfield 58, 3) := by decide +kernel
theorem dX4_findBest_165 : decode cX4_findBest 165 = .ok (.if_icmp .gt 37, 3) := by decide +kernel
theorem dX4_findBest_168 : decode cX4_findBest 168 = .ok (.aload_n 0, 1) := by decide +kernel
theorem dX4_findBest_169 : decode cX4_findBest 169 = .ok (.getfield 46, 3) := by decide +kernel
theorem dX4_findBest_172 : decode cX4_findBest 172 = .ok (.iload 9, 2) := by decide +kernel
theorem dX4_findBest_174 : decode cX4_findBest 174 = .ok (.aload_n 0, 1) := by decide +kernel
theorem dX4_findBest_175 : decode cX4_findBest 175 = .ok (.getfield 39, 3) := by decide +kernel
theorem dX4_findBest_178 : decode cX4_findBest 178 = .ok (.iload 9, 2) := by decide +kernel
theorem dX4_findBest_180 : decode cX4_findBest 180 = .ok (.iaload, 1) := by decide +kernel
theorem dX4_findBest_181 : decode cX4_findBest 181 = .ok (.iastore, 1) := by decide +kernel
theorem dX4_findBest_182 : decode cX4_findBest 182 = .ok (.aload_n 0, 1) := by decide +kernel
theorem dX4_findBest_183 : decode cX4_findBest 183 = .ok (.getfield 49, 3) := by decide +kernel
theorem dX4_findBest_186 : decode cX4_findBest 186 = .ok (.iload 9, 2) := by decide +kernel
theorem dX4_findBest_188 : decode cX4_findBest 188 = .ok (.aload_n 0, 1) := by decide +kernel
theorem dX4_findBest_189 : decode cX4_findBest 189 = .ok (.getfield 42, 3) := by decide +kernel
theorem dX4_findBest_192 : decode cX4_findBest 192 = .ok (.iload 9, 2) := by decide +kernel
theorem dX4_findBest_194 : decode cX4_findBest 194 = .ok (.laload, 1) := by decide +kernel
theorem dX4_findBest_195 : decode cX4_findBest 195 = .ok (.lastore, 1) := by decide +kernel
theorem dX4_findBest_196 : decode cX4_findBest 196 = .ok (.iinc 9 1, 3) := by decide +kernel
theorem dX4_findBest_199 : decode cX4_findBest 199 = .ok (.goto (-40), 3) := by decide +kernel
theorem dX4_findBest_202 : decode cX4_findBest 202 = .ok (.iinc 3 1, 3) := by decide +kernel
theorem dX4_findBest_205 : decode cX4_findBest 205 = .ok (.goto (-168), 3) := by decide +kernel
theorem dX4_findBest_208 : decode cX4_findBest 208 = .ok (.return_, 1) := by decide +kernel
theorem dX4_best_0 : decode cX4_best 0 = .ok (.aload_n 0, 1) := by decide +kernel
theorem dX4_best_1 : decode cX4_best 1 = .ok (.iload_n 1, 1) := by decide +kernel
theorem dX4_best_2 : decode cX4_best 2 = .ok (.i2l, 1) := by decide +kernel
theorem dX4_best_3 : decode cX4_best 3 = .ok (.lconst 0, 1) := by decide +kernel
theorem dX4_best_4 : decode cX4_best 4 = .ok (.lconst 1, 1) := by decide +kernel
theorem dX4_best_5 : decode cX4_best 5 = .ok (.invokestatic 61, 3) := by decide +kernel
theorem dX4_best_8 : decode cX4_best 8 = .ok (.ifCond .eq 7, 3) := by decide +kernel
theorem dX4_best_11 : decode cX4_best 11 = .ok (.iconst 0, 1) := by decide +kernel
theorem dX4_best_12 : decode cX4_best 12 = .ok (.goto 4, 3) := by decide +kernel
theorem dX4_best_15 : decode cX4_best 15 = .ok (.iconst 1, 1) := by decide +kernel
theorem dX4_best_16 : decode cX4_best 16 = .ok (.putfield 55, 3) := by decide +kernel
theorem dX4_best_19 : decode cX4_best 19 = .ok (.aload_n 0, 1) := by decide +kernel
theorem dX4_best_20 : decode cX4_best 20 = .ok (.getfield 55, 3) := by decide +kernel
theorem dX4_best_23 : decode cX4_best 23 = .ok (.ifCond .le 5, 3) := by decide +kernel
theorem dX4_best_26 : decode cX4_best 26 = .ok (.iconst 0, 1) := by decide +kernel
theorem dX4_best_27 : decode cX4_best 27 = .ok (.ireturn, 1) := by decide +kernel
theorem dX4_best_28 : decode cX4_best 28 = .ok (.aload_n 0, 1) := by decide +kernel
theorem dX4_best_29 : decode cX4_best 29 = .ok (.invokevirtual 137, 3) := by decide +kernel
theorem dX4_best_32 : decode cX4_best 32 = .ok (.aload_n 0, 1) := by decide +kernel
theorem dX4_best_33 : decode cX4_best 33 = .ok (.getfield 113, 3) := by decide +kernel
theorem dX4_best_36 : decode cX4_best 36 = .ok (.ifCond .ne 7, 3) := by decide +kernel
theorem dX4_best_39 : decode cX4_best 39 = .ok (.iconst (-1), 1) := by decide +kernel
theorem dX4_best_40 : decode cX4_best 40 = .ok (.goto 19, 3) := by decide +kernel
theorem dX4_best_43 : decode cX4_best 43 = .ok (.iload_n 1, 1) := by decide +kernel
theorem dX4_best_44 : decode cX4_best 44 = .ok (.ifCond .ne 10, 3) := by decide +kernel
theorem dX4_best_47 : decode cX4_best 47 = .ok (.aload_n 0, 1) := by decide +kernel
theorem dX4_best_48 : decode cX4_best 48 = .ok (.getfield 130, 3) := by decide +kernel
theorem dX4_best_51 : decode cX4_best 51 = .ok (.goto 7, 3) := by decide +kernel
theorem dX4_best_54 : decode cX4_best 54 = .ok (.aload_n 0, 1) := by decide +kernel
theorem dX4_best_55 : decode cX4_best 55 = .ok (.getfield 134, 3) := by decide +kernel
theorem dX4_best_58 : decode cX4_best 58 = .ok (.l2i, 1) := by decide +kernel
theorem dX4_best_59 : decode cX4_best 59 = .ok (.ireturn, 1) := by decide +kernel
theorem dX4_chosen_0 : decode cX4_chosen 0 = .ok (.aload_n 0, 1) := by decide +kernel
theorem dX4_chosen_1 : decode cX4_chosen 1 = .ok (.aload_n 0, 1) := by decide +kernel
theorem dX4_chosen_2 : decode cX4_chosen 2 = .ok (.iload_n 1, 1) := by decide +kernel
theorem dX4_chosen_3 : decode cX4_chosen 3 = .ok (.invokevirtual 69, 3) := by decide +kernel
theorem dX4_chosen_6 : decode cX4_chosen 6 = .ok (.ifCond .eq 7, 3) := by decide +kernel
theorem dX4_chosen_9 : decode cX4_chosen 9 = .ok (.iconst 0, 1) := by decide +kernel
theorem dX4_chosen_10 : decode cX4_chosen 10 = .ok (.goto 4, 3) := by decide +kernel
theorem dX4_chosen_13 : decode cX4_chosen 13 = .ok (.iconst 1, 1) := by decide +kernel
theorem dX4_chosen_14 : decode cX4_chosen 14 = .ok (.putfield 55, 3) := by decide +kernel
theorem dX4_chosen_17 : decode cX4_chosen 17 = .ok (.aload_n 0, 1) := by decide +kernel
theorem dX4_chosen_18 : decode cX4_chosen 18 = .ok (.getfield 55, 3) := by decide +kernel
theorem dX4_chosen_21 : decode cX4_chosen 21 = .ok (.ifCond .le 5, 3) := by decide +kernel
theorem dX4_chosen_24 : decode cX4_chosen 24 = .ok (.iconst 0, 1) := by decide +kernel
theorem dX4_chosen_25 : decode cX4_chosen 25 = .ok (.ireturn, 1) := by decide +kernel
theorem dX4_chosen_26 : decode cX4_chosen 26 = .ok (.aload_n 0, 1) := by decide +kernel
theorem dX4_chosen_27 : decode cX4_chosen 27 = .ok (.invokevirtual 137, 3) := by decide +kernel
theorem dX4_chosen_30 : decode cX4_chosen 30 = .ok (.aload_n 0, 1) := by decide +kernel
theorem dX4_chosen_31 : decode cX4_chosen 31 = .ok (.getfield 113, 3) := by decide +kernel
theorem dX4_chosen_34 : decode cX4_chosen 34 = .ok (.ifCond .eq 12, 3) := by decide +kernel
theorem dX4_chosen_37 : decode cX4_chosen 37 = .ok (.aload_n 0, 1) := by decide +kernel
theorem dX4_chosen_38 : decode cX4_chosen 38 = .ok (.getfield 46, 3) := by decide +kernel
theorem dX4_chosen_41 : decode cX4_chosen 41 = .ok (.iload_n 1, 1) := by decide +kernel
theorem dX4_chosen_42 : decode cX4_chosen 42 = .ok (.iaload, 1) := by decide +kernel
theorem dX4_chosen_43 : decode cX4_chosen 43 = .ok (.goto 4, 3) := by decide +kernel
theorem dX4_chosen_46 : decode cX4_chosen 46 = .ok (.iconst (-1), 1) := by decide +kernel
theorem dX4_chosen_47 : decode cX4_chosen 47 = .ok (.ireturn, 1) := by decide +kernel
theorem dX4_pressure_0 : decode cX4_pressure 0 = .ok (.aload_n 0, 1) := by decide +kernel
theorem dX4_pressure_1 : decode cX4_pressure 1 = .ok (.iload_n 1, 1) := by decide +kernel
theorem dX4_pressure_2 : decode cX4_pressure 2 = .ok (.i2l, 1) := by decide +kernel
theorem dX4_pressure_3 : decode cX4_pressure 3 = .ok (.lconst 0, 1) := by decide +kernel
theorem dX4_pressure_4 : decode cX4_pressure 4 = .ok (.aload_n 0, 1) := by decide +kernel
theorem dX4_pressure_5 : decode cX4_pressure 5 = .ok (.getfield 58, 3) := by decide +kernel
theorem dX4_pressure_8 : decode cX4_pressure 8 = .ok (.i2l, 1) := by decide +kernel
theorem dX4_pressure_9 : decode cX4_pressure 9 = .ok (.invokestatic 61, 3) := by decide +kernel
theorem dX4_pressure_12 : decode cX4_pressure 12 = .ok (.ifCond .eq 7, 3) := by decide +kernel
theorem dX4_pressure_15 : decode cX4_pressure 15 = .ok (.iconst 0, 1) := by decide +kernel
theorem dX4_pressure_16 : decode cX4_pressure 16 = .ok (.goto 4, 3) := by decide +kernel
theorem dX4_pressure_19 : decode cX4_pressure 19 = .ok (.iconst 1, 1) := by decide +kernel
theorem dX4_pressure_20 : decode cX4_pressure 20 = .ok (.putfield 55, 3) := by decide +kernel
theorem dX4_pressure_23 : decode cX4_pressure 23 = .ok (.aload_n 0, 1) := by decide +kernel
theorem dX4_pressure_24 : decode cX4_pressure 24 = .ok (.getfield 55, 3) := by decide +kernel
theorem dX4_pressure_27 : decode cX4_pressure 27 = .ok (.ifCond .le 5, 3) := by decide +kernel
theorem dX4_pressure_30 : decode cX4_pressure 30 = .ok (.iconst 0, 1) := by decide +kernel
theorem dX4_pressure_31 : decode cX4_pressure 31 = .ok (.ireturn, 1) := by decide +kernel
theorem dX4_pressure_32 : decode cX4_pressure 32 = .ok (.aload_n 0, 1) := by decide +kernel
theorem dX4_pressure_33 : decode cX4_pressure 33 = .ok (.invokevirtual 137, 3) := by decide +kernel
theorem dX4_pressure_36 : decode cX4_pressure 36 = .ok (.aload_n 0, 1) := by decide +kernel
theorem dX4_pressure_37 : decode cX4_pressure 37 = .ok (.getfield 113, 3) := by decide +kernel
theorem dX4_pressure_40 : decode cX4_pressure 40 = .ok (.ifCond .ne 7, 3) := by decide +kernel
theorem dX4_pressure_43 : decode cX4_pressure 43 = .ok (.iconst (-1), 1) := by decide +kernel
theorem dX4_pressure_44 : decode cX4_pressure 44 = .ok (.goto 18, 3) := by decide +kernel
theorem dX4_pressure_47 : decode cX4_pressure 47 = .ok (.iload_n 1, 1) := by decide +kernel
theorem dX4_pressure_48 : decode cX4_pressure 48 = .ok (.ifCond .ne 7, 3) := by decide +kernel
theorem dX4_pressure_51 : decode cX4_pressure 51 = .ok (.iconst 0, 1) := by decide +kernel
theorem dX4_pressure_52 : decode cX4_pressure 52 = .ok (.goto 10, 3) := by decide +kernel
theorem dX4_pressure_55 : decode cX4_pressure 55 = .ok (.aload_n 0, 1) := by decide +kernel
theorem dX4_pressure_56 : decode cX4_pressure 56 = .ok (.getfield 49, 3) := by decide +kernel
theorem dX4_pressure_59 : decode cX4_pressure 59 = .ok (.iload_n 1, 1) := by decide +kernel
theorem dX4_pressure_60 : decode cX4_pressure 60 = .ok (.laload, 1) := by decide +kernel
theorem dX4_pressure_61 : decode cX4_pressure 61 = .ok (.l2i, 1) := by decide +kernel
theorem dX4_pressure_62 : decode cX4_pressure 62 = .ok (.ireturn, 1) := by decide +kernel
theorem dX4_damper_0 : decode cX4_damper 0 = .ok (.aload_n 0, 1) := by decide +kernel
theorem dX4_damper_1 : decode cX4_damper 1 = .ok (.aload_n 0, 1) := by decide +kernel
theorem dX4_damper_2 : decode cX4_damper 2 = .ok (.iload_n 1, 1) := by decide +kernel
theorem dX4_damper_3 : decode cX4_damper 3 = .ok (.invokevirtual 69, 3) := by decide +kernel
theorem dX4_damper_6 : decode cX4_damper 6 = .ok (.ifCond .eq 7, 3) := by decide +kernel
theorem dX4_damper_9 : decode cX4_damper 9 = .ok (.iconst 0, 1) := by decide +kernel
theorem dX4_damper_10 : decode cX4_damper 10 = .ok (.goto 4, 3) := by decide +kernel
theorem dX4_damper_13 : decode cX4_damper 13 = .ok (.iconst 1, 1) := by decide +kernel
theorem dX4_damper_14 : decode cX4_damper 14 = .ok (.putfield 55, 3) := by decide +kernel
theorem dX4_damper_17 : decode cX4_damper 17 = .ok (.aload_n 0, 1) := by decide +kernel
theorem dX4_damper_18 : decode cX4_damper 18 = .ok (.getfield 55, 3) := by decide +kernel
theorem dX4_damper_21 : decode cX4_damper 21 = .ok (.ifCond .le 5, 3) := by decide +kernel
theorem dX4_damper_24 : decode cX4_damper 24 = .ok (.iconst 0, 1) := by decide +kernel
theorem dX4_damper_25 : decode cX4_damper 25 = .ok (.ireturn, 1) := by decide +kernel
theorem dX4_damper_26 : decode cX4_damper 26 = .ok (.aload_n 0, 1) := by decide +kernel
theorem dX4_damper_27 : decode cX4_damper 27 = .ok (.invokevirtual 137, 3) := by decide +kernel
theorem dX4_damper_30 : decode cX4_damper 30 = .ok (.aload_n 0, 1) := by decide +kernel
theorem dX4_damper_31 : decode cX4_damper 31 = .ok (.getfield 113, 3) := by decide +kernel
theorem dX4_damper_34 : decode cX4_damper 34 = .ok (.ifCond .ne 7, 3) := by decide +kernel
theorem dX4_damper_37 : decode cX4_damper 37 = .ok (.iconst (-1), 1) := by decide +kernel
theorem dX4_damper_38 : decode cX4_damper 38 = .ok (.goto 28, 3) := by decide +kernel
theorem dX4_damper_41 : decode cX4_damper 41 = .ok (.aload_n 0, 1) := by decide +kernel
theorem dX4_damper_42 : decode cX4_damper 42 = .ok (.getfield 19, 3) := by decide +kernel
theorem dX4_damper_45 : decode cX4_damper 45 = .ok (.iload_n 1, 1) := by decide +kernel
theorem dX4_damper_46 : decode cX4_damper 46 = .ok (.iaload, 1) := by decide +kernel
theorem dX4_damper_47 : decode cX4_damper 47 = .ok (.ifCond .ne 7, 3) := by decide +kernel
theorem dX4_damper_50 : decode cX4_damper 50 = .ok (.iconst 0, 1) := by decide +kernel
theorem dX4_damper_51 : decode cX4_damper 51 = .ok (.goto 15, 3) := by decide +kernel
theorem dX4_damper_54 : decode cX4_damper 54 = .ok (.aload_n 0, 1) := by decide +kernel
theorem dX4_damper_55 : decode cX4_damper 55 = .ok (.getfield 134, 3) := by decide +kernel
theorem dX4_damper_58 : decode cX4_damper 58 = .ok (.aload_n 0, 1) := by decide +kernel
theorem dX4_damper_59 : decode cX4_damper 59 = .ok (.getfield 49, 3) := by decide +kernel
theorem dX4_damper_62 : decode cX4_damper 62 = .ok (.iload_n 1, 1) := by decide +kernel
theorem dX4_damper_63 : decode cX4_damper 63 = .ok (.laload, 1) := by decide +kernel
theorem dX4_damper_64 : decode cX4_damper 64 = .ok (.lsub, 1) := by decide +kernel
theorem dX4_damper_65 : decode cX4_damper 65 = .ok (.l2i, 1) := by decide +kernel
theorem dX4_damper_66 : decode cX4_damper 66 = .ok (.ireturn, 1) := by decide +kernel
theorem dX4_least_0 : decode cX4_least 0 = .ok (.aload_n 0, 1) := by decide +kernel
theorem dX4_least_1 : decode cX4_least 1 = .ok (.iload_n 1, 1) := by decide +kernel
theorem dX4_least_2 : decode cX4_least 2 = .ok (.i2l, 1) := by decide +kernel
theorem dX4_least_3 : decode cX4_least 3 = .ok (.lconst 0, 1) := by decide +kernel
theorem dX4_least_4 : decode cX4_least 4 = .ok (.ldc2_w 88, 3) := by decide +kernel
theorem dX4_least_7 : decode cX4_least 7 = .ok (.invokestatic 61, 3) := by decide +kernel
theorem dX4_least_10 : decode cX4_least 10 = .ok (.ifCond .eq 7, 3) := by decide +kernel
theorem dX4_least_13 : decode cX4_least 13 = .ok (.iconst 0, 1) := by decide +kernel
theorem dX4_least_14 : decode cX4_least 14 = .ok (.goto 4, 3) := by decide +kernel
theorem dX4_least_17 : decode cX4_least 17 = .ok (.iconst 1, 1) := by decide +kernel
theorem dX4_least_18 : decode cX4_least 18 = .ok (.putfield 55, 3) := by decide +kernel
theorem dX4_least_21 : decode cX4_least 21 = .ok (.aload_n 0, 1) := by decide +kernel
theorem dX4_least_22 : decode cX4_least 22 = .ok (.getfield 55, 3) := by decide +kernel
theorem dX4_least_25 : decode cX4_least 25 = .ok (.ifCond .le 5, 3) := by decide +kernel
theorem dX4_least_28 : decode cX4_least 28 = .ok (.iconst 0, 1) := by decide +kernel
theorem dX4_least_29 : decode cX4_least 29 = .ok (.ireturn, 1) := by decide +kernel
theorem dX4_least_30 : decode cX4_least 30 = .ok (.aload_n 0, 1) := by decide +kernel
theorem dX4_least_31 : decode cX4_least 31 = .ok (.invokevirtual 117, 3) := by decide +kernel
theorem dX4_least_34 : decode cX4_least 34 = .ok (.ldc2_w 111, 3) := by decide +kernel
theorem dX4_least_37 : decode cX4_least 37 = .ok (.lstore_n 2, 1) := by decide +kernel
theorem dX4_least_38 : decode cX4_least 38 = .ok (.aload_n 0, 1) := by decide +kernel
theorem dX4_least_39 : decode cX4_least 39 = .ok (.invokevirtual 120, 3) := by decide +kernel
theorem dX4_least_42 : decode cX4_least 42 = .ok (.istore 4, 2) := by decide +kernel
theorem dX4_least_44 : decode cX4_least 44 = .ok (.iconst 0, 1) := by decide +kernel
theorem dX4_least_45 : decode cX4_least 45 = .ok (.istore 5, 2) := by decide +kernel
theorem dX4_least_47 : decode cX4_least 47 = .ok (.iload 5, 2) := by decide +kernel
theorem dX4_least_49 : decode cX4_least 49 = .ok (.iload 4, 2) := by decide +kernel
theorem dX4_least_51 : decode cX4_least 51 = .ok (.if_icmp .ge 52, 3) := by decide +kernel
theorem dX4_least_54 : decode cX4_least 54 = .ok (.aload_n 0, 1) := by decide +kernel
theorem dX4_least_55 : decode cX4_least 55 = .ok (.iload 5, 2) := by decide +kernel
theorem dX4_least_57 : decode cX4_least 57 = .ok (.invokevirtual 123, 3) := by decide +kernel
theorem dX4_least_60 : decode cX4_least 60 = .ok (.lstore 6, 2) := by decide +kernel
theorem dX4_least_62 : decode cX4_least 62 = .ok (.lload 6, 2) := by decide +kernel
theorem dX4_least_64 : decode cX4_least 64 = .ok (.lconst 0, 1) := by decide +kernel
theorem dX4_least_65 : decode cX4_least 65 = .ok (.lcmp, 1) := by decide +kernel
theorem dX4_least_66 : decode cX4_least 66 = .ok (.ifCond .lt 31, 3) := by decide +kernel
theorem dX4_least_69 : decode cX4_least 69 = .ok (.lload 6, 2) := by decide +kernel
theorem dX4_least_71 : decode cX4_least 71 = .ok (.iload_n 1, 1) := by decide +kernel
theorem dX4_least_72 : decode cX4_least 72 = .ok (.i2l, 1) := by decide +kernel
theorem dX4_least_73 : decode cX4_least 73 = .ok (.lcmp, 1) := by decide +kernel
theorem dX4_least_74 : decode cX4_least 74 = .ok (.ifCond .gt 23, 3) := by decide +kernel
theorem dX4_least_77 : decode cX4_least 77 = .ok (.lload_n 2, 1) := by decide +kernel
theorem dX4_least_78 : decode cX4_least 78 = .ok (.lconst 0, 1) := by decide +kernel
theorem dX4_least_79 : decode cX4_least 79 = .ok (.lcmp, 1) := by decide +kernel
theorem dX4_least_80 : decode cX4_least 80 = .ok (.ifCond .lt 12, 3) := by decide +kernel
theorem dX4_least_83 : decode cX4_least 83 = .ok (.aload_n 0, 1) := by decide +kernel
theorem dX4_least_84 : decode cX4_least 84 = .ok (.invokevirtual 126, 3) := by decide +kernel
theorem dX4_least_87 : decode cX4_least 87 = .ok (.lload_n 2, 1) := by decide +kernel
theorem dX4_least_88 : decode cX4_least 88 = .ok (.lcmp, 1) := by decide +kernel
theorem dX4_least_89 : decode cX4_least 89 = .ok (.ifCond .ge 8, 3) := by decide +kernel
theorem dX4_least_92 : decode cX4_least 92 = .ok (.aload_n 0, 1) := by decide +kernel
theorem dX4_least_93 : decode cX4_least 93 = .ok (.invokevirtual 126, 3) := by decide +kernel
theorem dX4_least_96 : decode cX4_least 96 = .ok (.lstore_n 2, 1) := by decide +kernel
theorem dX4_least_97 : decode cX4_least 97 = .ok (.iinc 5 1, 3) := by decide +kernel
theorem dX4_least_100 : decode cX4_least 100 = .ok (.goto (-53), 3) := by decide +kernel
theorem dX4_least_103 : decode cX4_least 103 = .ok (.lload_n 2, 1) := by decide +kernel
theorem dX4_least_104 : decode cX4_least 104 = .ok (.l2i, 1) := by decide +kernel
theorem dX4_least_105 : decode cX4_least 105 = .ok (.ireturn, 1) := by decide +kernel
theorem dX4_worst_0 : decode cX4_worst 0 = .ok (.aload_n 0, 1) := by decide +kernel
theorem dX4_worst_1 : decode cX4_worst 1 = .ok (.iconst 0, 1) := by decide +kernel
theorem dX4_worst_2 : decode cX4_worst 2 = .ok (.putfield 55, 3) := by decide +kernel
theorem dX4_worst_5 : decode cX4_worst 5 = .ok (.aload_n 0, 1) := by decide +kernel
theorem dX4_worst_6 : decode cX4_worst 6 = .ok (.invokevirtual 137, 3) := by decide +kernel
theorem dX4_worst_9 : decode cX4_worst 9 = .ok (.aload_n 0, 1) := by decide +kernel
theorem dX4_worst_10 : decode cX4_worst 10 = .ok (.getfield 113, 3) := by decide +kernel
theorem dX4_worst_13 : decode cX4_worst 13 = .ok (.ifCond .ne 5, 3) := by decide +kernel
theorem dX4_worst_16 : decode cX4_worst 16 = .ok (.iconst (-1), 1) := by decide +kernel
theorem dX4_worst_17 : decode cX4_worst 17 = .ok (.ireturn, 1) := by decide +kernel
theorem dX4_worst_18 : decode cX4_worst 18 = .ok (.iconst 1, 1) := by decide +kernel
theorem dX4_worst_19 : decode cX4_worst 19 = .ok (.istore_n 1, 1) := by decide +kernel
theorem dX4_worst_20 : decode cX4_worst 20 = .ok (.iload_n 1, 1) := by decide +kernel
theorem dX4_worst_21 : decode cX4_worst 21 = .ok (.aload_n 0, 1) := by decide +kernel
theorem dX4_worst_22 : decode cX4_worst 22 = .ok (.getfield 58, 3) := by decide +kernel
theorem dX4_worst_25 : decode cX4_worst 25 = .ok (.if_icmp .gt 34, 3) := by decide +kernel
theorem dX4_worst_28 : decode cX4_worst 28 = .ok (.aload_n 0, 1) := by decide +kernel
theorem dX4_worst_29 : decode cX4_worst 29 = .ok (.getfield 134, 3) := by decide +kernel
theorem dX4_worst_32 : decode cX4_worst 32 = .ok (.lconst 0, 1) := by decide +kernel
theorem dX4_worst_33 : decode cX4_worst 33 = .ok (.lcmp, 1) := by decide +kernel
theorem dX4_worst_34 : decode cX4_worst 34 = .ok (.ifCond .le 25, 3) := by decide +kernel
theorem dX4_worst_37 : decode cX4_worst 37 = .ok (.aload_n 0, 1) := by decide +kernel
theorem dX4_worst_38 : decode cX4_worst 38 = .ok (.getfield 49, 3) := by decide +kernel
theorem dX4_worst_41 : decode cX4_worst 41 = .ok (.iload_n 1, 1) := by decide +kernel
theorem dX4_worst_42 : decode cX4_worst 42 = .ok (.laload, 1) := by decide +kernel
theorem dX4_worst_43 : decode cX4_worst 43 = .ok (.aload_n 0, 1) := by decide +kernel
theorem dX4_worst_44 : decode cX4_worst 44 = .ok (.getfield 134, 3) := by decide +kernel
theorem dX4_worst_47 : decode cX4_worst 47 = .ok (.lcmp, 1) := by decide +kernel
theorem dX4_worst_48 : decode cX4_worst 48 = .ok (.ifCond .ne 5, 3) := by decide +kernel
theorem dX4_worst_51 : decode cX4_worst 51 = .ok (.iload_n 1, 1) := by decide +kernel
theorem dX4_worst_52 : decode cX4_worst 52 = .ok (.ireturn, 1) := by decide +kernel
theorem dX4_worst_53 : decode cX4_worst 53 = .ok (.iinc 1 1, 3) := by decide +kernel
theorem dX4_worst_56 : decode cX4_worst 56 = .ok (.goto (-36), 3) := by decide +kernel
theorem dX4_worst_59 : decode cX4_worst 59 = .ok (.iconst 0, 1) := by decide +kernel
theorem dX4_worst_60 : decode cX4_worst 60 = .ok (.ireturn, 1) := by decide +kernel
