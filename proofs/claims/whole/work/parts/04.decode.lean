/-! DECODE: every instruction at its place -/
theorem dX1_speedOf_0 : decode cX1_speedOf 0 = .ok (.bipush 100, 2) := by decide +kernel
theorem dX1_speedOf_2 : decode cX1_speedOf 2 = .ok (.aload_n 0, 1) := by decide +kernel
theorem dX1_speedOf_3 : decode cX1_speedOf 3 = .ok (.getfield 24, 3) := by decide +kernel
theorem dX1_speedOf_6 : decode cX1_speedOf 6 = .ok (.iload_n 1, 1) := by decide +kernel
theorem dX1_speedOf_7 : decode cX1_speedOf 7 = .ok (.iaload, 1) := by decide +kernel
theorem dX1_speedOf_8 : decode cX1_speedOf 8 = .ok (.imul, 1) := by decide +kernel
theorem dX1_speedOf_9 : decode cX1_speedOf 9 = .ok (.aload_n 0, 1) := by decide +kernel
theorem dX1_speedOf_10 : decode cX1_speedOf 10 = .ok (.getfield 31, 3) := by decide +kernel
theorem dX1_speedOf_13 : decode cX1_speedOf 13 = .ok (.iload_n 2, 1) := by decide +kernel
theorem dX1_speedOf_14 : decode cX1_speedOf 14 = .ok (.iaload, 1) := by decide +kernel
theorem dX1_speedOf_15 : decode cX1_speedOf 15 = .ok (.idiv, 1) := by decide +kernel
theorem dX1_speedOf_16 : decode cX1_speedOf 16 = .ok (.ireturn, 1) := by decide +kernel
theorem dX1_fallOf_0 : decode cX1_fallOf 0 = .ok (.aload_n 0, 1) := by decide +kernel
theorem dX1_fallOf_1 : decode cX1_fallOf 1 = .ok (.getfield 24, 3) := by decide +kernel
theorem dX1_fallOf_4 : decode cX1_fallOf 4 = .ok (.iload_n 1, 1) := by decide +kernel
theorem dX1_fallOf_5 : decode cX1_fallOf 5 = .ok (.iaload, 1) := by decide +kernel
theorem dX1_fallOf_6 : decode cX1_fallOf 6 = .ok (.i2l, 1) := by decide +kernel
theorem dX1_fallOf_7 : decode cX1_fallOf 7 = .ok (.lstore_n 3, 1) := by decide +kernel
theorem dX1_fallOf_8 : decode cX1_fallOf 8 = .ok (.aload_n 0, 1) := by decide +kernel
theorem dX1_fallOf_9 : decode cX1_fallOf 9 = .ok (.getfield 31, 3) := by decide +kernel
theorem dX1_fallOf_12 : decode cX1_fallOf 12 = .ok (.iload_n 2, 1) := by decide +kernel
theorem dX1_fallOf_13 : decode cX1_fallOf 13 = .ok (.iaload, 1) := by decide +kernel
theorem dX1_fallOf_14 : decode cX1_fallOf 14 = .ok (.i2l, 1) := by decide +kernel
theorem dX1_fallOf_15 : decode cX1_fallOf 15 = .ok (.lstore 5, 2) := by decide +kernel
theorem dX1_fallOf_17 : decode cX1_fallOf 17 = .ok (.ldc2_w 47, 3) := by decide +kernel
theorem dX1_fallOf_20 : decode cX1_fallOf 20 = .ok (.lload_n 3, 1) := by decide +kernel
theorem dX1_fallOf_21 : decode cX1_fallOf 21 = .ok (.lmul, 1) := by decide +kernel
theorem dX1_fallOf_22 : decode cX1_fallOf 22 = .ok (.lload_n 3, 1) := by decide +kernel
theorem dX1_fallOf_23 : decode cX1_fallOf 23 = .ok (.lmul, 1) := by decide +kernel
theorem dX1_fallOf_24 : decode cX1_fallOf 24 = .ok (.lload 5, 2) := by decide +kernel
theorem dX1_fallOf_26 : decode cX1_fallOf 26 = .ok (.lload 5, 2) := by decide +kernel
theorem dX1_fallOf_28 : decode cX1_fallOf 28 = .ok (.lmul, 1) := by decide +kernel
theorem dX1_fallOf_29 : decode cX1_fallOf 29 = .ok (.ldiv, 1) := by decide +kernel
theorem dX1_fallOf_30 : decode cX1_fallOf 30 = .ok (.lstore 7, 2) := by decide +kernel
theorem dX1_fallOf_32 : decode cX1_fallOf 32 = .ok (.aload_n 0, 1) := by decide +kernel
theorem dX1_fallOf_33 : decode cX1_fallOf 33 = .ok (.getfield 15, 3) := by decide +kernel
theorem dX1_fallOf_36 : decode cX1_fallOf 36 = .ok (.iload_n 1, 1) := by decide +kernel
theorem dX1_fallOf_37 : decode cX1_fallOf 37 = .ok (.iaload, 1) := by decide +kernel
theorem dX1_fallOf_38 : decode cX1_fallOf 38 = .ok (.i2l, 1) := by decide +kernel
theorem dX1_fallOf_39 : decode cX1_fallOf 39 = .ok (.lload 7, 2) := by decide +kernel
theorem dX1_fallOf_41 : decode cX1_fallOf 41 = .ok (.lmul, 1) := by decide +kernel
theorem dX1_fallOf_42 : decode cX1_fallOf 42 = .ok (.ldc2_w 49, 3) := by decide +kernel
theorem dX1_fallOf_45 : decode cX1_fallOf 45 = .ok (.ldiv, 1) := by decide +kernel
theorem dX1_fallOf_46 : decode cX1_fallOf 46 = .ok (.ldc2_w 51, 3) := by decide +kernel
theorem dX1_fallOf_49 : decode cX1_fallOf 49 = .ok (.invokestatic 53, 3) := by decide +kernel
theorem dX1_fallOf_52 : decode cX1_fallOf 52 = .ok (.lstore 9, 2) := by decide +kernel
theorem dX1_fallOf_54 : decode cX1_fallOf 54 = .ok (.lload 9, 2) := by decide +kernel
theorem dX1_fallOf_56 : decode cX1_fallOf 56 = .ok (.l2i, 1) := by decide +kernel
theorem dX1_fallOf_57 : decode cX1_fallOf 57 = .ok (.aload_n 0, 1) := by decide +kernel
theorem dX1_fallOf_58 : decode cX1_fallOf 58 = .ok (.getfield 18, 3) := by decide +kernel
theorem dX1_fallOf_61 : decode cX1_fallOf 61 = .ok (.iload_n 1, 1) := by decide +kernel
theorem dX1_fallOf_62 : decode cX1_fallOf 62 = .ok (.iaload, 1) := by decide +kernel
theorem dX1_fallOf_63 : decode cX1_fallOf 63 = .ok (.iadd, 1) := by decide +kernel
theorem dX1_fallOf_64 : decode cX1_fallOf 64 = .ok (.ireturn, 1) := by decide +kernel
theorem dX1_allows_0 : decode cX1_allows 0 = .ok (.aload_n 0, 1) := by decide +kernel
theorem dX1_allows_1 : decode cX1_allows 1 = .ok (.iload_n 1, 1) := by decide +kernel
theorem dX1_allows_2 : decode cX1_allows 2 = .ok (.iload_n 2, 1) := by decide +kernel
theorem dX1_allows_3 : decode cX1_allows 3 = .ok (.invokevirtual 59, 3) := by decide +kernel
theorem dX1_allows_6 : decode cX1_allows 6 = .ok (.aload_n 0, 1) := by decide +kernel
theorem dX1_allows_7 : decode cX1_allows 7 = .ok (.getfield 41, 3) := by decide +kernel
theorem dX1_allows_10 : decode cX1_allows 10 = .ok (.if_icmp .gt 7, 3) := by decide +kernel
theorem dX1_allows_13 : decode cX1_allows 13 = .ok (.iconst 1, 1) := by decide +kernel
theorem dX1_allows_14 : decode cX1_allows 14 = .ok (.goto 4, 3) := by decide +kernel
theorem dX1_allows_17 : decode cX1_allows 17 = .ok (.iconst 0, 1) := by decide +kernel
theorem dX1_allows_18 : decode cX1_allows 18 = .ok (.ireturn, 1) := by decide +kernel
theorem dX1_priceOf_0 : decode cX1_priceOf 0 = .ok (.aload_n 0, 1) := by decide +kernel
theorem dX1_priceOf_1 : decode cX1_priceOf 1 = .ok (.getfield 15, 3) := by decide +kernel
theorem dX1_priceOf_4 : decode cX1_priceOf 4 = .ok (.iload_n 1, 1) := by decide +kernel
theorem dX1_priceOf_5 : decode cX1_priceOf 5 = .ok (.iaload, 1) := by decide +kernel
theorem dX1_priceOf_6 : decode cX1_priceOf 6 = .ok (.aload_n 0, 1) := by decide +kernel
theorem dX1_priceOf_7 : decode cX1_priceOf 7 = .ok (.getfield 34, 3) := by decide +kernel
theorem dX1_priceOf_10 : decode cX1_priceOf 10 = .ok (.iload_n 2, 1) := by decide +kernel
theorem dX1_priceOf_11 : decode cX1_priceOf 11 = .ok (.iaload, 1) := by decide +kernel
theorem dX1_priceOf_12 : decode cX1_priceOf 12 = .ok (.imul, 1) := by decide +kernel
theorem dX1_priceOf_13 : decode cX1_priceOf 13 = .ok (.ireturn, 1) := by decide +kernel
theorem dX1_addDuct_0 : decode cX1_addDuct 0 = .ok (.aload_n 0, 1) := by decide +kernel
theorem dX1_addDuct_1 : decode cX1_addDuct 1 = .ok (.dup, 1) := by decide +kernel
theorem dX1_addDuct_2 : decode cX1_addDuct 2 = .ok (.getfield 27, 3) := by decide +kernel
theorem dX1_addDuct_5 : decode cX1_addDuct 5 = .ok (.iconst 1, 1) := by decide +kernel
theorem dX1_addDuct_6 : decode cX1_addDuct 6 = .ok (.iadd, 1) := by decide +kernel
theorem dX1_addDuct_7 : decode cX1_addDuct 7 = .ok (.putfield 27, 3) := by decide +kernel
theorem dX1_addDuct_10 : decode cX1_addDuct 10 = .ok (.aload_n 0, 1) := by decide +kernel
theorem dX1_addDuct_11 : decode cX1_addDuct 11 = .ok (.getfield 9, 3) := by decide +kernel
theorem dX1_addDuct_14 : decode cX1_addDuct 14 = .ok (.aload_n 0, 1) := by decide +kernel
theorem dX1_addDuct_15 : decode cX1_addDuct 15 = .ok (.getfield 27, 3) := by decide +kernel
theorem dX1_addDuct_18 : decode cX1_addDuct 18 = .ok (.iload_n 1, 1) := by decide +kernel
theorem dX1_addDuct_19 : decode cX1_addDuct 19 = .ok (.iastore, 1) := by decide +kernel
theorem dX1_addDuct_20 : decode cX1_addDuct 20 = .ok (.aload_n 0, 1) := by decide +kernel
theorem dX1_addDuct_21 : decode cX1_addDuct 21 = .ok (.getfield 15, 3) := by decide +kernel
theorem dX1_addDuct_24 : decode cX1_addDuct 24 = .ok (.aload_n 0, 1) := by decide +kernel
theorem dX1_addDuct_25 : decode cX1_addDuct 25 = .ok (.getfield 27, 3) := by decide +kernel
theorem dX1_addDuct_28 : decode cX1_addDuct 28 = .ok (.iload_n 2, 1) := by decide +kernel
theorem dX1_addDuct_29 : decode cX1_addDuct 29 = .ok (.iastore, 1) := by decide +kernel
theorem dX1_addDuct_30 : decode cX1_addDuct 30 = .ok (.aload_n 0, 1) := by decide +kernel
theorem dX1_addDuct_31 : decode cX1_addDuct 31 = .ok (.getfield 18, 3) := by decide +kernel
theorem dX1_addDuct_34 : decode cX1_addDuct 34 = .ok (.aload_n 0, 1) := by decide +kernel
theorem dX1_addDuct_35 : decode cX1_addDuct 35 = .ok (.getfield 27, 3) := by decide +kernel
theorem dX1_addDuct_38 : decode cX1_addDuct 38 = .ok (.iload_n 3, 1) := by decide +kernel
theorem dX1_addDuct_39 : decode cX1_addDuct 39 = .ok (.iastore, 1) := by decide +kernel
theorem dX1_addDuct_40 : decode cX1_addDuct 40 = .ok (.aload_n 0, 1) := by decide +kernel
theorem dX1_addDuct_41 : decode cX1_addDuct 41 = .ok (.getfield 27, 3) := by decide +kernel
theorem dX1_addDuct_44 : decode cX1_addDuct 44 = .ok (.ireturn, 1) := by decide +kernel
theorem dX1_addSize_0 : decode cX1_addSize 0 = .ok (.aload_n 0, 1) := by decide +kernel
theorem dX1_addSize_1 : decode cX1_addSize 1 = .ok (.getfield 31, 3) := by decide +kernel
theorem dX1_addSize_4 : decode cX1_addSize 4 = .ok (.aload_n 0, 1) := by decide +kernel
theorem dX1_addSize_5 : decode cX1_addSize 5 = .ok (.getfield 37, 3) := by decide +kernel
theorem dX1_addSize_8 : decode cX1_addSize 8 = .ok (.iload_n 1, 1) := by decide +kernel
theorem dX1_addSize_9 : decode cX1_addSize 9 = .ok (.iastore, 1) := by decide +kernel
theorem dX1_addSize_10 : decode cX1_addSize 10 = .ok (.aload_n 0, 1) := by decide +kernel
theorem dX1_addSize_11 : decode cX1_addSize 11 = .ok (.getfield 34, 3) := by decide +kernel
theorem dX1_addSize_14 : decode cX1_addSize 14 = .ok (.aload_n 0, 1) := by decide +kernel
theorem dX1_addSize_15 : decode cX1_addSize 15 = .ok (.getfield 37, 3) := by decide +kernel
theorem dX1_addSize_18 : decode cX1_addSize 18 = .ok (.iload_n 2, 1) := by decide +kernel
theorem dX1_addSize_19 : decode cX1_addSize 19 = .ok (.iastore, 1) := by decide +kernel
theorem dX1_addSize_20 : decode cX1_addSize 20 = .ok (.aload_n 0, 1) := by decide +kernel
theorem dX1_addSize_21 : decode cX1_addSize 21 = .ok (.dup, 1) := by decide +kernel
theorem dX1_addSize_22 : decode cX1_addSize 22 = .ok (.getfield 37, 3) := by decide +kernel
theorem dX1_addSize_25 : decode cX1_addSize 25 = .ok (.iconst 1, 1) := by decide +kernel
theorem dX1_addSize_26 : decode cX1_addSize 26 = .ok (.iadd, 1) := by decide +kernel
theorem dX1_addSize_27 : decode cX1_addSize 27 = .ok (.putfield 37, 3) := by decide +kernel
theorem dX1_addSize_30 : decode cX1_addSize 30 = .ok (.aload_n 0, 1) := by decide +kernel
theorem dX1_addSize_31 : decode cX1_addSize 31 = .ok (.getfield 37, 3) := by decide +kernel
theorem dX1_addSize_34 : decode cX1_addSize 34 = .ok (.iconst 1, 1) := by decide +kernel
theorem dX1_addSize_35 : decode cX1_addSize 35 = .ok (.isub, 1) := by decide +kernel
theorem dX1_addSize_36 : decode cX1_addSize 36 = .ok (.ireturn, 1) := by decide +kernel
theorem dX1_sumFlows_0 : decode cX1_sumFlows 0 = .ok (.iconst 0, 1) := by decide +kernel
theorem dX1_sumFlows_1 : decode cX1_sumFlows 1 = .ok (.istore_n 1, 1) := by decide +kernel
theorem dX1_sumFlows_2 : decode cX1_sumFlows 2 = .ok (.iload_n 1, 1) := by decide +kernel
theorem dX1_sumFlows_3 : decode cX1_sumFlows 3 = .ok (.aload_n 0, 1) := by decide +kernel
theorem dX1_sumFlows_4 : decode cX1_sumFlows 4 = .ok (.getfield 27, 3) := by decide +kernel
theorem dX1_sumFlows_7 : decode cX1_sumFlows 7 = .ok (.if_icmp .gt 21, 3) := by decide +kernel
theorem dX1_sumFlows_10 : decode cX1_sumFlows 10 = .ok (.aload_n 0, 1) := by decide +kernel
theorem dX1_sumFlows_11 : decode cX1_sumFlows 11 = .ok (.getfield 24, 3) := by decide +kernel
theorem dX1_sumFlows_14 : decode cX1_sumFlows 14 = .ok (.iload_n 1, 1) := by decide +kernel
theorem dX1_sumFlows_15 : decode cX1_sumFlows 15 = .ok (.aload_n 0, 1) := by decide +kernel
theorem dX1_sumFlows_16 : decode cX1_sumFlows 16 = .ok (.getfield 21, 3) := by decide +kernel
theorem dX1_sumFlows_19 : decode cX1_sumFlows 19 = .ok (.iload_n 1, 1) := by decide +kernel
theorem dX1_sumFlows_20 : decode cX1_sumFlows 20 = .ok (.iaload, 1) := by decide +kernel
theorem dX1_sumFlows_21 : decode cX1_sumFlows 21 = .ok (.iastore, 1) := by decide +kernel
theorem dX1_sumFlows_22 : decode cX1_sumFlows 22 = .ok (.iinc 1 1, 3) := by decide +kernel
theorem dX1_sumFlows_25 : decode cX1_sumFlows 25 = .ok (.goto (-23), 3) := by decide +kernel
theorem dX1_sumFlows_28 : decode cX1_sumFlows 28 = .ok (.aload_n 0, 1) := by decide +kernel
theorem dX1_sumFlows_29 : decode cX1_sumFlows 29 = .ok (.getfield 27, 3) := by decide +kernel
theorem dX1_sumFlows_32 : decode cX1_sumFlows 32 = .ok (.istore_n 1, 1) := by decide +kernel
theorem dX1_sumFlows_33 : decode cX1_sumFlows 33 = .ok (.iload_n 1, 1) := by decide +kernel
theorem dX1_sumFlows_34 : decode cX1_sumFlows 34 = .ok (.iconst 1, 1) := by decide +kernel
theorem dX1_sumFlows_35 : decode cX1_sumFlows 35 = .ok (.if_icmp .lt 29, 3) := by decide +kernel
theorem dX1_sumFlows_38 : decode cX1_sumFlows 38 = .ok (.aload_n 0, 1) := by decide +kernel
theorem dX1_sumFlows_39 : decode cX1_sumFlows 39 = .ok (.getfield 24, 3) := by decide +kernel
theorem dX1_sumFlows_42 : decode cX1_sumFlows 42 = .ok (.aload_n 0, 1) := by decide +kernel
theorem dX1_sumFlows_43 : decode cX1_sumFlows 43 = .ok (.getfield 9, 3) := by decide +kernel
theorem dX1_sumFlows_46 : decode cX1_sumFlows 46 = .ok (.iload_n 1, 1) := by decide +kernel
theorem dX1_sumFlows_47 : decode cX1_sumFlows 47 = .ok (.iaload, 1) := by decide +kernel
theorem dX1_sumFlows_48 : decode cX1_sumFlows 48 = .ok (.dup2, 1) := by decide +kernel
theorem dX1_sumFlows_49 : decode cX1_sumFlows 49 = .ok (.iaload, 1) := by decide +kernel
theorem dX1_sumFlows_50 : decode cX1_sumFlows 50 = .ok (.aload_n 0, 1) := by decide +kernel
theorem dX1_sumFlows_51 : decode cX1_sumFlows 51 = .ok (.getfield 24, 3) := by decide +kernel
theorem dX1_sumFlows_54 : decode cX1_sumFlows 54 = .ok (.iload_n 1, 1) := by decide +kernel
theorem dX1_sumFlows_55 : decode cX1_sumFlows 55 = .ok (.iaload, 1) := by decide +kernel
theorem dX1_sumFlows_56 : decode cX1_sumFlows 56 = .ok (.iadd, 1) := by decide +kernel
theorem dX1_sumFlows_57 : decode cX1_sumFlows 57 = .ok (.iastore, 1) := by decide +kernel
theorem dX1_sumFlows_58 : decode cX1_sumFlows 58 = .ok (.iinc 1 (-1), 3) := by decide +kernel
theorem dX1_sumFlows_61 : decode cX1_sumFlows 61 = .ok (.goto (-28), 3) := by decide +kernel
theorem dX1_sumFlows_64 : decode cX1_sumFlows 64 = .ok (.return_, 1) := by decide +kernel
theorem dX1_changeNeed_0 : decode cX1_changeNeed 0 = .ok (.aload_n 0, 1) := by decide +kernel
theorem dX1_changeNeed_1 : decode cX1_changeNeed 1 = .ok (.getfield 21, 3) := by decide +kernel
theorem dX1_changeNeed_4 : decode cX1_changeNeed 4 = .ok (.iload_n 1, 1) := by decide +kernel
theorem dX1_changeNeed_5 : decode cX1_changeNeed 5 = .ok (.iaload, 1) := by decide +kernel
theorem dX1_changeNeed_6 : decode cX1_changeNeed 6 = .ok (.istore_n 3, 1) := by decide +kernel
theorem dX1_changeNeed_7 : decode cX1_changeNeed 7 = .ok (.aload_n 0, 1) := by decide +kernel
theorem dX1_changeNeed_8 : decode cX1_changeNeed 8 = .ok (.getfield 21, 3) := by decide +kernel
theorem dX1_changeNeed_11 : decode cX1_changeNeed 11 = .ok (.iload_n 1, 1) := by decide +kernel
theorem dX1_changeNeed_12 : decode cX1_changeNeed 12 = .ok (.iload_n 2, 1) := by decide +kernel
theorem dX1_changeNeed_13 : decode cX1_changeNeed 13 = .ok (.iastore, 1) := by decide +kernel
theorem dX1_changeNeed_14 : decode cX1_changeNeed 14 = .ok (.aload_n 0, 1) := by decide +kernel
theorem dX1_changeNeed_15 : decode cX1_changeNeed 15 = .ok (.invokevirtual 44, 3) := by decide +kernel
theorem dX1_changeNeed_18 : decode cX1_changeNeed 18 = .ok (.iload_n 3, 1) := by decide +kernel
theorem dX1_changeNeed_19 : decode cX1_changeNeed 19 = .ok (.ireturn, 1) := by decide +kernel
theorem dX0_takes_0 : decode cX0_takes 0 = .ok (.aload_n 0, 1) := by decide +kernel
theorem dX0_takes_1 : decode cX0_takes 1 = .ok (.getfield 18, 3) := by decide +kernel
theorem dX0_takes_4 : decode cX0_takes 4 = .ok (.iconst 5, 1) := by decide +kernel
theorem dX0_takes_5 : decode cX0_takes 5 = .ok (.if_icmp .lt 5, 3) := by decide +kernel
theorem dX0_takes_8 : decode cX0_takes 8 = .ok (.iconst 0, 1) := by decide +kernel
theorem dX0_takes_9 : decode cX0_takes 9 = .ok (.ireturn, 1) := by decide +kernel
theorem dX0_takes_10 : decode cX0_takes 10 = .ok (.aload_n 0, 1) := by decide +kernel
theorem dX0_takes_11 : decode cX0_takes 11 = .ok (.getfield 18, 3) := by decide +kernel
theorem dX0_takes_14 : decode cX0_takes 14 = .ok (.ifCond .eq 33, 3) := by decide +kernel
theorem dX0_takes_17 : decode cX0_takes 17 = .ok (.iload_n 1, 1) := by decide +kernel
theorem dX0_takes_18 : decode cX0_takes 18 = .ok (.aload_n 0, 1) := by decide +kernel
theorem dX0_takes_19 : decode cX0_takes 19 = .ok (.getfield 9, 3) := by decide +kernel
theorem dX0_takes_22 : decode cX0_takes 22 = .ok (.aload_n 0, 1) := by decide +kernel
theorem dX0_takes_23 : decode cX0_takes 23 = .ok (.getfield 18, 3) := by decide +kernel
theorem dX0_takes_26 : decode cX0_takes 26 = .ok (.iconst 1, 1) := by decide +kernel
theorem dX0_takes_27 : decode cX0_takes 27 = .ok (.isub, 1) := by decide +kernel
theorem dX0_takes_28 : decode cX0_takes 28 = .ok (.iaload, 1) := by decide +kernel
theorem dX0_takes_29 : decode cX0_takes 29 = .ok (.if_icmp .le 22, 3) := by decide +kernel
theorem dX0_takes_32 : decode cX0_takes 32 = .ok (.iload_n 2, 1) := by decide +kernel
theorem dX0_takes_33 : decode cX0_takes 33 = .ok (.aload_n 0, 1) := by decide +kernel
theorem dX0_takes_34 : decode cX0_takes 34 = .ok (.getfield 15, 3) := by decide +kernel
theorem dX0_takes_37 : decode cX0_takes 37 = .ok (.aload_n 0, 1) := by decide +kernel
theorem dX0_takes_38 : decode cX0_takes 38 = .ok (.getfield 18, 3) := by decide +kernel
theorem dX0_takes_41 : decode cX0_takes 41 = .ok (.iconst 1, 1) := by decide +kernel
theorem dX0_takes_42 : decode cX0_takes 42 = .ok (.isub, 1) := by decide +kernel
theorem dX0_takes_43 : decode cX0_takes 43 = .ok (.iaload, 1) := by decide +kernel
theorem dX0_takes_44 : decode cX0_takes 44 = .ok (.if_icmp .gt 7, 3) := by decide +kernel
theorem dX0_takes_47 : decode cX0_takes 47 = .ok (.iconst 1, 1) := by decide +kernel
theorem dX0_takes_48 : decode cX0_takes 48 = .ok (.goto 4, 3) := by decide +kernel
theorem dX0_takes_51 : decode cX0_takes 51 = .ok (.iconst 0, 1) := by decide +kernel
theorem dX0_takes_52 : decode cX0_takes 52 = .ok (.ireturn, 1) := by decide +kernel
theorem dX0_addPoint_0 : decode cX0_addPoint 0 = .ok (.aload_n 0, 1) := by decide +kernel
theorem dX0_addPoint_1 : decode cX0_addPoint 1 = .ok (.getfield 9, 3) := by decide +kernel
theorem dX0_addPoint_4 : decode cX0_addPoint 4 = .ok (.aload_n 0, 1) := by decide +kernel
theorem dX0_addPoint_5 : decode cX0_addPoint 5 = .ok (.getfield 18, 3) := by decide +kernel
theorem dX0_addPoint_8 : decode cX0_addPoint 8 = .ok (.iload_n 1, 1) := by decide +kernel
theorem dX0_addPoint_9 : decode cX0_addPoint 9 = .ok (.iastore, 1) := by decide +kernel
theorem dX0_addPoint_10 : decode cX0_addPoint 10 = .ok (.aload_n 0, 1) := by decide +kernel
theorem dX0_addPoint_11 : decode cX0_addPoint 11 = .ok (.getfield 15, 3) := by decide +kernel
theorem dX0_addPoint_14 : decode cX0_addPoint 14 = .ok (.aload_n 0, 1) := by decide +kernel
theorem dX0_addPoint_15 : decode cX0_addPoint 15 = .ok (.getfield 18, 3) := by decide +kernel
theorem dX0_addPoint_18 : decode cX0_addPoint 18 = .ok (.iload_n 2, 1) := by decide +kernel
theorem dX0_addPoint_19 : decode cX0_addPoint 19 = .ok (.iastore, 1) := by decide +kernel
theorem dX0_addPoint_20 : decode cX0_addPoint 20 = .ok (.aload_n 0, 1) := by decide +kernel
theorem dX0_addPoint_21 : decode cX0_addPoint 21 = .ok (.dup, 1) := by decide +kernel
theorem dX0_addPoint_22 : decode cX0_addPoint 22 = .ok (.getfield 18, 3) := by decide +kernel
theorem dX0_addPoint_25 : decode cX0_addPoint 25 = .ok (.iconst 1, 1) := by decide +kernel
theorem dX0_addPoint_26 : decode cX0_addPoint 26 = .ok (.iadd, 1) := by decide +kernel
theorem dX0_addPoint_27 : decode cX0_addPoint 27 = .ok (.putfield 18, 3) := by decide +kernel
theorem dX0_addPoint_30 : decode cX0_addPoint 30 = .ok (.aload_n 0, 1) := by decide +kernel
theorem dX0_addPoint_31 : decode cX0_addPoint 31 = .ok (.getfield 18, 3) := by decide +kernel
theorem dX0_addPoint_34 : decode cX0_addPoint 34 = .ok (.ireturn, 1) := by decide +kernel
theorem dX0_pressureBefore_0 : decode cX0_pressureBefore 0 = .ok (.iload_n 1, 1) := by decide +kernel
theorem dX0_pressureBefore_1 : decode cX0_pressureBefore 1 = .ok (.iconst 1, 1) := by decide +kernel
theorem dX0_pressureBefore_2 : decode cX0_pressureBefore 2 = .ok (.isub, 1) := by decide +kernel
theorem dX0_pressureBefore_3 : decode cX0_pressureBefore 3 = .ok (.istore_n 3, 1) := by decide +kernel
theorem dX0_pressureBefore_4 : decode cX0_pressureBefore 4 = .ok (.aload_n 0, 1) := by decide +kernel
theorem dX0_pressureBefore_5 : decode cX0_pressureBefore 5 = .ok (.getfield 9, 3) := by decide +kernel
theorem dX0_pressureBefore_8 : decode cX0_pressureBefore 8 = .ok (.iload_n 1, 1) := by decide +kernel
theorem dX0_pressureBefore_9 : decode cX0_pressureBefore 9 = .ok (.iaload, 1) := by decide +kernel
theorem dX0_pressureBefore_10 : decode cX0_pressureBefore 10 = .ok (.aload_n 0, 1) := by decide +kernel
theorem dX0_pressureBefore_11 : decode cX0_pressureBefore 11 = .ok (.getfield 9, 3) := by decide +kernel
theorem dX0_pressureBefore_14 : decode cX0_pressureBefore 14 = .ok (.iload_n 3, 1) := by decide +kernel
theorem dX0_pressureBefore_15 : decode cX0_pressureBefore 15 = .ok (.iaload, 1) := by decide +kernel
theorem dX0_pressureBefore_16 : decode cX0_pressureBefore 16 = .ok (.isub, 1) := by decide +kernel
theorem dX0_pressureBefore_17 : decode cX0_pressureBefore 17 = .ok (.istore 4, 2) := by decide +kernel
theorem dX0_pressureBefore_19 : decode cX0_pressureBefore 19 = .ok (.aload_n 0, 1) := by decide +kernel
theorem dX0_pressureBefore_20 : decode cX0_pressureBefore 20 = .ok (.getfield 15, 3) := by decide +kernel
theorem dX0_pressureBefore_23 : decode cX0_pressureBefore 23 = .ok (.iload_n 3, 1) := by decide +kernel
theorem dX0_pressureBefore_24 : decode cX0_pressureBefore 24 = .ok (.iaload, 1) := by decide +kernel
theorem dX0_pressureBefore_25 : decode cX0_pressureBefore 25 = .ok (.aload_n 0, 1) := by decide +kernel
theorem dX0_pressureBefore_26 : decode cX0_pressureBefore 26 = .ok (.getfield 15, 3) := by decide +kernel
theorem dX0_pressureBefore_29 : decode cX0_pressureBefore 29 = .ok (.iload_n 1, 1) := by decide +kernel
theorem dX0_pressureBefore_30 : decode cX0_pressureBefore 30 = .ok (.iaload, 1) := by decide +kernel
theorem dX0_pressureBefore_31 : decode cX0_pressureBefore 31 = .ok (.isub, 1) := by decide +kernel
theorem dX0_pressureBefore_32 : decode cX0_pressureBefore 32 = .ok (.iload_n 2, 1) := by decide +kernel
theorem dX0_pressureBefore_33 : decode cX0_pressureBefore 33 = .ok (.aload_n 0, 1) := by decide +kernel
theorem dX0_pressureBefore_34 : decode cX0_pressureBefore 34 = .ok (.getfield 9, 3) := by decide +kernel
theorem dX0_pressureBefore_37 : decode cX0_pressureBefore 37 = .ok (.iload_n 3, 1) := by decide +kernel
theorem dX0_pressureBefore_38 : decode cX0_pressureBefore 38 = .ok (.iaload, 1) := by decide +kernel
theorem dX0_pressureBefore_39 : decode cX0_pressureBefore 39 = .ok (.isub, 1) := by decide +kernel
theorem dX0_pressureBefore_40 : decode cX0_pressureBefore 40 = .ok (.imul, 1) := by decide +kernel
theorem dX0_pressureBefore_41 : decode cX0_pressureBefore 41 = .ok (.istore 5, 2) := by decide +kernel
theorem dX0_pressureBefore_43 : decode cX0_pressureBefore 43 = .ok (.aload_n 0, 1) := by decide +kernel
theorem dX0_pressureBefore_44 : decode cX0_pressureBefore 44 = .ok (.getfield 15, 3) := by decide +kernel
theorem dX0_pressureBefore_47 : decode cX0_pressureBefore 47 = .ok (.iload_n 3, 1) := by decide +kernel
theorem dX0_pressureBefore_48 : decode cX0_pressureBefore 48 = .ok (.iaload, 1) := by decide +kernel
theorem dX0_pressureBefore_49 : decode cX0_pressureBefore 49 = .ok (.iload 5, 2) := by decide +kernel
theorem dX0_pressureBefore_51 : decode cX0_pressureBefore 51 = .ok (.iload 4, 2) := by decide +kernel
theorem dX0_pressureBefore_53 : decode cX0_pressureBefore 53 = .ok (.iadd, 1) := by decide +kernel
theorem dX0_pressureBefore_54 : decode cX0_pressureBefore 54 = .ok (.iconst 1, 1) := by decide +kernel
theorem dX0_pressureBefore_55 : decode cX0_pressureBefore 55 = .ok (.isub, 1) := by decide +kernel
theorem dX0_pressureBefore_56 : decode cX0_pressureBefore 56 = .ok (.iload 4, 2) := by decide +kernel
theorem dX0_pressureBefore_58 : decode cX0_pressureBefore 58 = .ok (.idiv, 1) := by decide +kernel
theorem dX0_pressureBefore_59 : decode cX0_pressureBefore 59 = .ok (.isub, 1) := by decide +kernel
theorem dX0_pressureBefore_60 : decode cX0_pressureBefore 60 = .ok (.ireturn, 1) := by decide +kernel
theorem dX0_pressureAt_0 : decode cX0_pressureAt 0 = .ok (.aload_n 0, 1) := by decide +kernel
theorem dX0_pressureAt_1 : decode cX0_pressureAt 1 = .ok (.getfield 18, 3) := by decide +kernel
theorem dX0_pressureAt_4 : decode cX0_pressureAt 4 = .ok (.ifCond .ne 7, 3) := by decide +kernel
theorem dX0_pressureAt_7 : decode cX0_pressureAt 7 = .ok (.sipush 300, 3) := by decide +kernel
theorem dX0_pressureAt_10 : decode cX0_pressureAt 10 = .ok (.ireturn, 1) := by decide +kernel
theorem dX0_pressureAt_11 : decode cX0_pressureAt 11 = .ok (.iload_n 1, 1) := by decide +kernel
theorem dX0_pressureAt_12 : decode cX0_pressureAt 12 = .ok (.aload_n 0, 1) := by decide +kernel
theorem dX0_pressureAt_13 : decode cX0_pressureAt 13 = .ok (.getfield 9, 3) := by decide +kernel
theorem dX0_pressureAt_16 : decode cX0_pressureAt 16 = .ok (.iconst 0, 1) := by decide +kernel
theorem dX0_pressureAt_17 : decode cX0_pressureAt 17 = .ok (.iaload, 1) := by decide +kernel
theorem dX0_pressureAt_18 : decode cX0_pressureAt 18 = .ok (.if_icmp .gt 10, 3) := by decide +kernel
theorem dX0_pressureAt_21 : decode cX0_pressureAt 21 = .ok (.aload_n 0, 1) := by decide +kernel
theorem dX0_pressureAt_22 : decode cX0_pressureAt 22 = .ok (.getfield 15, 3) := by decide +kernel
theorem dX0_pressureAt_25 : decode cX0_pressureAt 25 = .ok (.iconst 0, 1) := by decide +kernel
theorem dX0_pressureAt_26 : decode cX0_pressureAt 26 = .ok (.iaload, 1) := by decide +kernel
theorem dX0_pressureAt_27 : decode cX0_pressureAt 27 = .ok (.ireturn, 1) := by decide +kernel
theorem dX0_pressureAt_28 : decode cX0_pressureAt 28 = .ok (.iconst 1, 1) := by decide +kernel
theorem dX0_pressureAt_29 : decode cX0_pressureAt 29 = .ok (.istore_n 2, 1) := by decide +kernel
theorem dX0_pressureAt_30 : decode cX0_pressureAt 30 = .ok (.iload_n 2, 1) := by decide +kernel
theorem dX0_pressureAt_31 : decode cX0_pressureAt 31 = .ok (.aload_n 0, 1) := by decide +kernel
theorem dX0_pressureAt_32 : decode cX0_pressureAt 32 = .ok (.getfield 18, 3) := by decide +kernel
theorem dX0_pressureAt_35 : decode cX0_pressureAt 35 = .ok (.if_icmp .ge 26, 3) := by decide +kernel
theorem dX0_pressureAt_38 : decode cX0_pressureAt 38 = .ok (.iload_n 1, 1) := by decide +kernel
theorem dX0_pressureAt_39 : decode cX0_pressureAt 39 = .ok (.aload_n 0, 1) := by decide +kernel
theorem dX0_pressureAt_40 : decode cX0_pressureAt 40 = .ok (.getfield 9, 3) := by decide +kernel
theorem dX0_pressureAt_43 : decode cX0_pressureAt 43 = .ok (.iload_n 2, 1) := by decide +kernel
theorem dX0_pressureAt_44 : decode cX0_pressureAt 44 = .ok (.iaload, 1) := by decide +kernel
theorem dX0_pressureAt_45 : decode cX0_pressureAt 45 = .ok (.if_icmp .gt 10, 3) := by decide +kernel
theorem dX0_pressureAt_48 : decode cX0_pressureAt 48 = .ok (.aload_n 0, 1) := by decide +kernel
theorem dX0_pressureAt_49 : decode cX0_pressureAt 49 = .ok (.iload_n 2, 1) := by decide +kernel
theorem dX0_pressureAt_50 : decode cX0_pressureAt 50 = .ok (.iload_n 1, 1) := by decide +kernel
theorem dX0_pressureAt_51 : decode cX0_pressureAt 51 = .ok (.invokevirtual 22, 3) := by decide +kernel
theorem dX0_pressureAt_54 : decode cX0_pressureAt 54 = .ok (.ireturn, 1) := by decide +kernel
theorem dX0_pressureAt_55 : decode cX0_pressureAt 55 = .ok (.iinc 2 1, 3) := by decide +kernel
theorem dX0_pressureAt_58 : decode cX0_pressureAt 58 = .ok (.goto (-28), 3) := by decide +kernel
theorem dX0_pressureAt_61 : decode cX0_pressureAt 61 = .ok (.iconst 0, 1) := by decide +kernel
theorem dX0_pressureAt_62 : decode cX0_pressureAt 62 = .ok (.ireturn, 1) := by decide +kernel
theorem dX2_isBetter_0 : decode cX2_isBetter 0 = .ok (.iload_n 1, 1) := by decide +kernel
theorem dX2_isBetter_1 : decode cX2_isBetter 1 = .ok (.aload_n 0, 1) := by decide +kernel
theorem dX2_isBetter_2 : decode cX2_isBetter 2 = .ok (.getfield 27, 3) := by decide +kernel
theorem dX2_isBetter_5 : decode cX2_isBetter 5 = .ok (.iload_n 2, 1) := by decide +kernel
theorem dX2_isBetter_6 : decode cX2_isBetter 6 = .ok (.imul, 1) := by decide +kernel
theorem dX2_isBetter_7 : decode cX2_isBetter 7 = .ok (.iadd, 1) := by decide +kernel
theorem dX2_isBetter_8 : decode cX2_isBetter 8 = .ok (.istore_n 3, 1) := by decide +kernel
theorem dX2_isBetter_9 : decode cX2_isBetter 9 = .ok (.aload_n 0, 1) := by decide +kernel
theorem dX2_isBetter_10 : decode cX2_isBetter 10 = .ok (.getfield 36, 3) := by decide +kernel
theorem dX2_isBetter_13 : decode cX2_isBetter 13 = .ok (.ifCond .eq 27, 3) := by decide +kernel
theorem dX2_isBetter_16 : decode cX2_isBetter 16 = .ok (.iload_n 3, 1) := by decide +kernel
theorem dX2_isBetter_17 : decode cX2_isBetter 17 = .ok (.aload_n 0, 1) := by decide +kernel
theorem dX2_isBetter_18 : decode cX2_isBetter 18 = .ok (.getfield 40, 3) := by decide +kernel
theorem dX2_isBetter_21 : decode cX2_isBetter 21 = .ok (.if_icmp .lt 19, 3) := by decide +kernel
theorem dX2_isBetter_24 : decode cX2_isBetter 24 = .ok (.iload_n 3, 1) := by decide +kernel
theorem dX2_isBetter_25 : decode cX2_isBetter 25 = .ok (.aload_n 0, 1) := by decide +kernel
theorem dX2_isBetter_26 : decode cX2_isBetter 26 = .ok (.getfield 40, 3) := by decide +kernel
theorem dX2_isBetter_29 : decode cX2_isBetter 29 = .ok (.if_icmp .ne 15, 3) := by decide +kernel
theorem dX2_isBetter_32 : decode cX2_isBetter 32 = .ok (.iload_n 2, 1) := by decide +kernel
theorem dX2_isBetter_33 : decode cX2_isBetter 33 = .ok (.aload_n 0, 1) := by decide +kernel
theorem dX2_isBetter_34 : decode cX2_isBetter 34 = .ok (.getfield 43, 3) := by decide +kernel
theorem dX2_isBetter_37 : decode cX2_isBetter 37 = .ok (.if_icmp .ge 7, 3) := by decide +kernel
theorem dX2_isBetter_40 : decode cX2_isBetter 40 = .ok (.iconst 1, 1) := by decide +kernel
theorem dX2_isBetter_41 : decode cX2_isBetter 41 = .ok (.goto 4, 3) := by decide +kernel
theorem dX2_isBetter_44 : decode cX2_isBetter 44 = .ok (.iconst 0, 1) := by decide +kernel
theorem dX2_isBetter_45 : decode cX2_isBetter 45 = .ok (.ireturn, 1) := by decide +kernel
theorem dX2_firstNodeOfGreatestPressure_0 : decode cX2_firstNodeOfGreatestPressure 0 = .ok (.iconst 0, 1) := by decide +kernel
theorem dX2_firstNodeOfGreatestPressure_1 : decode cX2_firstNodeOfGreatestPressure 1 = .ok (.istore_n 1, 1) := by decide +kernel
theorem dX2_firstNodeOfGreatestPressure_2 : decode cX2_firstNodeOfGreatestPressure 2 = .ok (.iconst 1, 1) := by decide +kernel
theorem dX2_firstNodeOfGreatestPressure_3 : decode cX2_firstNodeOfGreatestPressure 3 = .ok (.istore_n 2, 1) := by decide +kernel
theorem dX2_firstNodeOfGreatestPressure_4 : decode cX2_firstNodeOfGreatestPressure 4 = .ok (.iload_n 2, 1) := by decide +kernel
theorem dX2_firstNodeOfGreatestPressure_5 : decode cX2_firstNodeOfGreatestPressure 5 = .ok (.aload_n 0, 1) := by decide +kernel
theorem dX2_firstNodeOfGreatestPressure_6 : decode cX2_firstNodeOfGreatestPressure 6 = .ok (.getfield 46, 3) := by decide +kernel
theorem dX2_firstNodeOfGreatestPressure_9 : decode cX2_firstNodeOfGreatestPressure 9 = .ok (.getfield 57, 3) := by decide +kernel
theorem dX2_firstNodeOfGreatestPressure_12 : decode cX2_firstNodeOfGreatestPressure 12 = .ok (.if_icmp .gt 26, 3) := by decide +kernel
theorem dX2_firstNodeOfGreatestPressure_15 : decode cX2_firstNodeOfGreatestPressure 15 = .ok (.aload_n 0, 1) := by decide +kernel
theorem dX2_firstNodeOfGreatestPressure_16 : decode cX2_firstNodeOfGreatestPressure 16 = .ok (.getfield 33, 3) := by decide +kernel
theorem dX2_firstNodeOfGreatestPressure_19 : decode cX2_firstNodeOfGreatestPressure 19 = .ok (.iload_n 2, 1) := by decide +kernel
theorem dX2_firstNodeOfGreatestPressure_20 : decode cX2_firstNodeOfGreatestPressure 20 = .ok (.iaload, 1) := by decide +kernel
theorem dX2_firstNodeOfGreatestPressure_21 : decode cX2_firstNodeOfGreatestPressure 21 = .ok (.aload_n 0, 1) := by decide +kernel
theorem dX2_firstNodeOfGreatestPressure_22 : decode cX2_firstNodeOfGreatestPressure 22 = .ok (.getfield 33, 3) := by decide +kernel
theorem dX2_firstNodeOfGreatestPressure_25 : decode cX2_firstNodeOfGreatestPressure 25 = .ok (.iload_n 1, 1) := by decide +kernel
theorem dX2_firstNodeOfGreatestPressure_26 : decode cX2_firstNodeOfGreatestPressure 26 = .ok (.iaload, 1) := by decide +kernel
theorem dX2_firstNodeOfGreatestPressure_27 : decode cX2_firstNodeOfGreatestPressure 27 = .ok (.if_icmp .le 5, 3) := by decide +kernel
theorem dX2_firstNodeOfGreatestPressure_30 : decode cX2_firstNodeOfGreatestPressure 30 = .ok (.iload_n 2, 1) := by decide +kernel
theorem dX2_firstNodeOfGreatestPressure_31 : decode cX2_firstNodeOfGreatestPressure 31 = .ok (.istore_n 1, 1) := by decide +kernel
theorem dX2_firstNodeOfGreatestPressure_32 : decode cX2_firstNodeOfGreatestPressure 32 = .ok (.iinc 2 1, 3) := by decide +kernel
theorem dX2_firstNodeOfGreatestPressure_35 : decode cX2_firstNodeOfGreatestPressure 35 = .ok (.goto (-31), 3) := by decide +kernel
theorem dX2_firstNodeOfGreatestPressure_38 : decode cX2_firstNodeOfGreatestPressure 38 = .ok (.iload_n 1, 1) := by decide +kernel
theorem dX2_firstNodeOfGreatestPressure_39 : decode cX2_firstNodeOfGreatestPressure 39 = .ok (.ireturn, 1) := by decide +kernel
theorem dX2_noteFalls_0 : decode cX2_noteFalls 0 = .ok (.iconst 1, 1) := by decide +kernel
theorem dX2_noteFalls_1 : decode cX2_noteFalls 1 = .ok (.istore_n 1, 1) := by decide +kernel
theorem dX2_noteFalls_2 : decode cX2_noteFalls 2 = .ok (.iload_n 1, 1) := by decide +kernel
theorem dX2_noteFalls_3 : decode cX2_noteFalls 3 = .ok (.aload_n 0, 1) := by decide +kernel
theorem dX2_noteFalls_4 : decode cX2_noteFalls 4 = .ok (.getfield 46, 3) := by decide +kernel
theorem dX2_noteFalls_7 : decode cX2_noteFalls 7 = .ok (.getfield 57, 3) := by decide +kernel
theorem dX2_noteFalls_10 : decode cX2_noteFalls 10 = .ok (.if_icmp .gt 61, 3) := by decide +kernel
theorem dX2_noteFalls_13 : decode cX2_noteFalls 13 = .ok (.iconst 0, 1) := by decide +kernel
theorem dX2_noteFalls_14 : decode cX2_noteFalls 14 = .ok (.istore_n 2, 1) := by decide +kernel
theorem dX2_noteFalls_15 : decode cX2_noteFalls 15 = .ok (.iload_n 2, 1) := by decide +kernel
theorem dX2_noteFalls_16 : decode cX2_noteFalls 16 = .ok (.aload_n 0, 1) := by decide +kernel
theorem dX2_noteFalls_17 : decode cX2_noteFalls 17 = .ok (.getfield 46, 3) := by decide +kernel
theorem dX2_noteFalls_20 : decode cX2_noteFalls 20 = .ok (.getfield 62, 3) := by decide +kernel
theorem dX2_noteFalls_23 : decode cX2_noteFalls 23 = .ok (.if_icmp .ge 42, 3) := by decide +kernel
theorem dX2_noteFalls_26 : decode cX2_noteFalls 26 = .ok (.aload_n 0, 1) := by decide +kernel
theorem dX2_noteFalls_27 : decode cX2_noteFalls 27 = .ok (.getfield 11, 3) := by decide +kernel
theorem dX2_noteFalls_30 : decode cX2_noteFalls 30 = .ok (.iload_n 1, 1) := by decide +kernel
theorem dX2_noteFalls_31 : decode cX2_noteFalls 31 = .ok (.aaload, 1) := by decide +kernel
theorem dX2_noteFalls_32 : decode cX2_noteFalls 32 = .ok (.iload_n 2, 1) := by decide +kernel
theorem dX2_noteFalls_33 : decode cX2_noteFalls 33 = .ok (.aload_n 0, 1) := by decide +kernel
theorem dX2_noteFalls_34 : decode cX2_noteFalls 34 = .ok (.getfield 46, 3) := by decide +kernel
theorem dX2_noteFalls_37 : decode cX2_noteFalls 37 = .ok (.iload_n 1, 1) := by decide +kernel
theorem dX2_noteFalls_38 : decode cX2_noteFalls 38 = .ok (.iload_n 2, 1) := by decide +kernel
theorem dX2_noteFalls_39 : decode cX2_noteFalls 39 = .ok (.invokevirtual 65, 3) := by decide +kernel
theorem dX2_noteFalls_42 : decode cX2_noteFalls 42 = .ok (.ifCond .eq 15, 3) := by decide +kernel
theorem dX2_noteFalls_45 : decode cX2_noteFalls 45 = .ok (.aload_n 0, 1) := by decide +kernel
theorem dX2_noteFalls_46 : decode cX2_noteFalls 46 = .ok (.getfield 46, 3) := by decide +kernel
theorem dX2_noteFalls_49 : decode cX2_noteFalls 49 = .ok (.iload_n 1, 1) := by decide +kernel
theorem dX2_noteFalls_50 : decode cX2_noteFalls 50 = .ok (.iload_n 2, 1) := by decide +kernel
theorem dX2_noteFalls_51 : decode cX2_noteFalls 51 = .ok (.invokevirtual 69, 3) := by decide +kernel
theorem dX2_noteFalls_54 : decode cX2_noteFalls 54 = .ok (.goto 4, 3) := by decide +kernel
theorem dX2_noteFalls_57 : decode cX2_noteFalls 57 = .ok (.iconst (-1), 1) := by decide +kernel
theorem dX2_noteFalls_58 : decode cX2_noteFalls 58 = .ok (.iastore, 1) := by decide +kernel
theorem dX2_noteFalls_59 : decode cX2_noteFalls 59 = .ok (.iinc 2 1, 3) := by decide +kernel
theorem dX2_noteFalls_62 : decode cX2_noteFalls 62 = .ok (.goto (-47), 3) := by decide +kernel
theorem dX2_noteFalls_65 : decode cX2_noteFalls 65 = .ok (.iinc 1 1, 3) := by decide +kernel
theorem dX2_noteFalls_68 : decode cX2_noteFalls 68 = .ok (.goto (-66), 3) := by decide +kernel
theorem dX2_noteFalls_71 : decode cX2_noteFalls 71 = .ok (.return_, 1) := by decide +kernel
theorem dX2_keepTrial_0 : decode cX2_keepTrial 0 = .ok (.aload_n 0, 1) := by decide +kernel
theorem dX2_keepTrial_1 : decode cX2_keepTrial 1 = .ok (.iconst 1, 1) := by decide +kernel
theorem dX2_keepTrial_2 : decode cX2_keepTrial 2 = .ok (.putfield 36, 3) := by decide +kernel
theorem dX2_keepTrial_5 : decode cX2_keepTrial 5 = .ok (.aload_n 0, 1) := by decide +kernel
theorem dX2_keepTrial_6 : decode cX2_keepTrial 6 = .ok (.iload_n 1, 1) := by decide +kernel
theorem dX2_keepTrial_7 : decode cX2_keepTrial 7 = .ok (.aload_n 0, 1) := by decide +kernel
theorem dX2_keepTrial_8 : decode cX2_keepTrial 8 = .ok (.getfield 27, 3) := by decide +kernel
theorem dX2_keepTrial_11 : decode cX2_keepTrial 11 = .ok (.iload_n 2, 1) := by decide +kernel
theorem dX2_keepTrial_12 : decode cX2_keepTrial 12 = .ok (.imul, 1) := by decide +kernel
theorem dX2_keepTrial_13 : decode cX2_keepTrial 13 = .ok (.iadd, 1) := by decide +kernel
theorem dX2_keepTrial_14 : decode cX2_keepTrial 14 = .ok (.putfield 40, 3) := by decide +kernel
theorem dX2_keepTrial_17 : decode cX2_keepTrial 17 = .ok (.aload_n 0, 1) := by decide +kernel
theorem dX2_keepTrial_18 : decode cX2_keepTrial 18 = .ok (.iload_n 2, 1) := by decide +kernel
theorem dX2_keepTrial_19 : decode cX2_keepTrial 19 = .ok (.putfield 43, 3) := by decide +kernel
theorem dX2_keepTrial_22 : decode cX2_keepTrial 22 = .ok (.iconst 1, 1) := by decide +kernel
theorem dX2_keepTrial_23 : decode cX2_keepTrial 23 = .ok (.istore_n 3, 1) := by decide +kernel
theorem dX2_keepTrial_24 : decode cX2_keepTrial 24 = .ok (.iload_n 3, 1) := by decide +kernel
theorem dX2_keepTrial_25 : decode cX2_keepTrial 25 = .ok (.aload_n 0, 1) := by decide +kernel
theorem dX2_keepTrial_26 : decode cX2_keepTrial 26 = .ok (.getfield 46, 3) := by decide +kernel
theorem dX2_keepTrial_29 : decode cX2_keepTrial 29 = .ok (.getfield 57, 3) := by decide +kernel
theorem dX2_keepTrial_32 : decode cX2_keepTrial 32 = .ok (.if_icmp .gt 33, 3) := by decide +kernel
theorem dX2_keepTrial_35 : decode cX2_keepTrial 35 = .ok (.aload_n 0, 1) := by decide +kernel
theorem dX2_keepTrial_36 : decode cX2_keepTrial 36 = .ok (.getfield 30, 3) := by decide +kernel
theorem dX2_keepTrial_39 : decode cX2_keepTrial 39 = .ok (.iload_n 3, 1) := by decide +kernel
theorem dX2_keepTrial_40 : decode cX2_keepTrial 40 = .ok (.aload_n 0, 1) := by decide +kernel
theorem dX2_keepTrial_41 : decode cX2_keepTrial 41 = .ok (.getfield 16, 3) := by decide +kernel
theorem dX2_keepTrial_44 : decode cX2_keepTrial 44 = .ok (.iload_n 3, 1) := by decide +kernel
theorem dX2_keepTrial_45 : decode cX2_keepTrial 45 = .ok (.iaload, 1) := by decide +kernel
theorem dX2_keepTrial_46 : decode cX2_keepTrial 46 = .ok (.iastore, 1) := by decide +kernel
theorem dX2_keepTrial_47 : decode cX2_keepTrial 47 = .ok (.aload_n 0, 1) := by decide +kernel
theorem dX2_keepTrial_48 : decode cX2_keepTrial 48 = .ok (.getfield 33, 3) := by decide +kernel
theorem dX2_keepTrial_51 : decode cX2_keepTrial 51 = .ok (.iload_n 3, 1) := by decide +kernel
theorem dX2_keepTrial_52 : decode cX2_keepTrial 52 = .ok (.aload_n 0, 1) := by decide +kernel
theorem dX2_keepTrial_53 : decode cX2_keepTrial 53 = .ok (.getfield 20, 3) := by decide +kernel
theorem dX2_keepTrial_56 : decode cX2_keepTrial 56 = .ok (.iload_n 3, 1) := by decide +kernel
theorem dX2_keepTrial_57 : decode cX2_keepTrial 57 = .ok (.iaload, 1) := by decide +kernel
theorem dX2_keepTrial_58 : decode cX2_keepTrial 58 = .ok (.iastore, 1) := by decide +kernel
theorem dX2_keepTrial_59 : decode cX2_keepTrial 59 = .ok (.iinc 3 1, 3) := by decide +kernel
theorem dX2_keepTrial_62 : decode cX2_keepTrial 62 = .ok (.goto (-38), 3) := by decide +kernel
theorem dX2_keepTrial_65 : decode cX2_keepTrial 65 = .ok (.return_, 1) := by decide +kernel
theorem dX2_placeFrom_0 : decode cX2_placeFrom 0 = .ok (.iload_n 1, 1) := by decide +kernel
theorem dX2_placeFrom_1 : decode cX2_placeFrom 1 = .ok (.aload_n 0, 1) := by decide +kernel
theorem dX2_placeFrom_2 : decode cX2_placeFrom 2 = .ok (.getfield 46, 3) := by decide +kernel
theorem dX2_placeFrom_5 : decode cX2_placeFrom 5 = .ok (.getfield 57, 3) := by decide +kernel
theorem dX2_placeFrom_8 : decode cX2_placeFrom 8 = .ok (.if_icmp .le 10, 3) := by decide +kernel
theorem dX2_placeFrom_11 : decode cX2_placeFrom 11 = .ok (.aload_n 0, 1) := by decide +kernel
theorem dX2_placeFrom_12 : decode cX2_placeFrom 12 = .ok (.iload_n 2, 1) := by decide +kernel
theorem dX2_placeFrom_13 : decode cX2_placeFrom 13 = .ok (.iload_n 3, 1) := by decide +kernel
theorem dX2_placeFrom_14 : decode cX2_placeFrom 14 = .ok (.invokevirtual 73, 3) := by decide +kernel
theorem dX2_placeFrom_17 : decode cX2_placeFrom 17 = .ok (.return_, 1) := by decide +kernel
theorem dX2_placeFrom_18 : decode cX2_placeFrom 18 = .ok (.iconst 0, 1) := by decide +kernel
theorem dX2_placeFrom_19 : decode cX2_placeFrom 19 = .ok (.istore 4, 2) := by decide +kernel
theorem dX2_placeFrom_21 : decode cX2_placeFrom 21 = .ok (.iload 4, 2) := by decide +kernel
theorem dX2_placeFrom_23 : decode cX2_placeFrom 23 = .ok (.aload_n 0, 1) := by decide +kernel
theorem dX2_placeFrom_24 : decode cX2_placeFrom 24 = .ok (.getfield 46, 3) := by decide +kernel
theorem dX2_placeFrom_27 : decode cX2_placeFrom 27 = .ok (.getfield 62, 3) := by decide +kernel
theorem dX2_placeFrom_30 : decode cX2_placeFrom 30 = .ok (.if_icmp .ge 31, 3) := by decide +kernel
theorem dX2_placeFrom_33 : decode cX2_placeFrom 33 = .ok (.aload_n 0, 1) := by decide +kernel
theorem dX2_placeFrom_34 : decode cX2_placeFrom 34 = .ok (.getfield 11, 3) := by decide +kernel
theorem dX2_placeFrom_37 : decode cX2_placeFrom 37 = .ok (.iload_n 1, 1) := by decide +kernel
theorem dX2_placeFrom_38 : decode cX2_placeFrom 38 = .ok (.aaload, 1) := by decide +kernel
theorem dX2_placeFrom_39 : decode cX2_placeFrom 39 = .ok (.iload 4, 2) := by decide +kernel
theorem dX2_placeFrom_41 : decode cX2_placeFrom 41 = .ok (.iaload, 1) := by decide +kernel
theorem dX2_placeFrom_42 : decode cX2_placeFrom 42 = .ok (.iconst (-1), 1) := by decide +kernel
theorem dX2_placeFrom_43 : decode cX2_placeFrom 43 = .ok (.if_icmp .eq 12, 3) := by decide +kernel
theorem dX2_placeFrom_46 : decode cX2_placeFrom 46 = .ok (.aload_n 0, 1) := by decide +kernel
theorem dX2_placeFrom_47 : decode cX2_placeFrom 47 = .ok (.iload_n 1, 1) := by decide +kernel
theorem dX2_placeFrom_48 : decode cX2_placeFrom 48 = .ok (.iload 4, 2) := by decide +kernel
theorem dX2_placeFrom_50 : decode cX2_placeFrom 50 = .ok (.iload_n 2, 1) := by decide +kernel
theorem dX2_placeFrom_51 : decode cX2_placeFrom 51 = .ok (.iload_n 3, 1) := by decide +kernel
theorem dX2_placeFrom_52 : decode cX2_placeFrom 52 = .ok (.invokevirtual 77, 3) := by decide +kernel
theorem dX2_placeFrom_55 : decode cX2_placeFrom 55 = .ok (.iinc 4 1, 3) := by decide +kernel
theorem dX2_placeFrom_58 : decode cX2_placeFrom 58 = .ok (.goto (-37), 3) := by decide +kernel
theorem dX2_placeFrom_61 : decode cX2_placeFrom 61 = .ok (.return_, 1) := by decide +kernel
theorem dX2_placeSize_0 : decode cX2_placeSize 0 = .ok (.aload_n 0, 1) := by decide +kernel
theorem dX2_placeSize_1 : decode cX2_placeSize 1 = .ok (.getfield 20, 3) := by decide +kernel
theorem dX2_placeSize_4 : decode cX2_placeSize 4 = .ok (.aload_n 0, 1) := by decide +kernel
theorem dX2_placeSize_5 : decode cX2_placeSize 5 = .ok (.getfield 46, 3) := by decide +kernel
theorem dX2_placeSize_8 : decode cX2_placeSize 8 = .ok (.getfield 81, 3) := by decide +kernel
theorem dX2_placeSize_11 : decode cX2_placeSize 11 = .ok (.iload_n 1, 1) := by decide +kernel
theorem dX2_placeSize_12 : decode cX2_placeSize 12 = .ok (.iaload, 1) := by decide +kernel
theorem dX2_placeSize_13 : decode cX2_placeSize 13 = .ok (.iaload, 1) := by decide +kernel
theorem dX2_placeSize_14 : decode cX2_placeSize 14 = .ok (.aload_n 0, 1) := by decide +kernel
theorem dX2_placeSize_15 : decode cX2_placeSize 15 = .ok (.getfield 11, 3) := by decide +kernel
theorem dX2_placeSize_18 : decode cX2_placeSize 18 = .ok (.iload_n 1, 1) := by decide +kernel
theorem dX2_placeSize_19 : decode cX2_placeSize 19 = .ok (.aaload, 1) := by decide +kernel
theorem dX2_placeSize_20 : decode cX2_placeSize 20 = .ok (.iload_n 2, 1) := by decide +kernel
theorem dX2_placeSize_21 : decode cX2_placeSize 21 = .ok (.iaload, 1) := by decide +kernel
theorem dX2_placeSize_22 : decode cX2_placeSize 22 = .ok (.iadd, 1) := by decide +kernel
theorem dX2_placeSize_23 : decode cX2_placeSize 23 = .ok (.istore 5, 2) := by decide +kernel
theorem dX2_placeSize_25 : decode cX2_placeSize 25 = .ok (.iload 4, 2) := by decide +kernel
theorem dX2_placeSize_27 : decode cX2_placeSize 27 = .ok (.iload 5, 2) := by decide +kernel
theorem dX2_placeSize_29 : decode cX2_placeSize 29 = .ok (.invokestatic 84, 3) := by decide +kernel
theorem dX2_placeSize_32 : decode cX2_placeSize 32 = .ok (.istore 6, 2) := by decide +kernel
theorem dX2_placeSize_34 : decode cX2_placeSize 34 = .ok (.iload_n 3, 1) := by decide +kernel
theorem dX2_placeSize_35 : decode cX2_placeSize 35 = .ok (.aload_n 0, 1) := by decide +kernel
theorem dX2_placeSize_36 : decode cX2_placeSize 36 = .ok (.getfield 46, 3) := by decide +kernel
theorem dX2_placeSize_39 : decode cX2_placeSize 39 = .ok (.iload_n 1, 1) := by decide +kernel
theorem dX2_placeSize_40 : decode cX2_placeSize 40 = .ok (.iload_n 2, 1) := by decide +kernel
theorem dX2_placeSize_41 : decode cX2_placeSize 41 = .ok (.invokevirtual 89, 3) := by decide +kernel
theorem dX2_placeSize_44 : decode cX2_placeSize 44 = .ok (.iadd, 1) := by decide +kernel
theorem dX2_placeSize_45 : decode cX2_placeSize 45 = .ok (.istore 7, 2) := by decide +kernel
theorem dX2_placeSize_47 : decode cX2_placeSize 47 = .ok (.iload 6, 2) := by decide +kernel
theorem dX2_placeSize_49 : decode cX2_placeSize 49 = .ok (.aload_n 0, 1) := by decide +kernel
theorem dX2_placeSize_50 : decode cX2_placeSize 50 = .ok (.getfield 23, 3) := by decide +kernel
theorem dX2_placeSize_53 : decode cX2_placeSize 53 = .ok (.if_icmp .gt 14, 3) := by decide +kernel
theorem dX2_placeSize_56 : decode cX2_placeSize 56 = .ok (.aload_n 0, 1) := by decide +kernel
theorem dX2_placeSize_57 : decode cX2_placeSize 57 = .ok (.iload 7, 2) := by decide +kernel
theorem dX2_placeSize_59 : decode cX2_placeSize 59 = .ok (.iload 6, 2) := by decide +kernel
theorem dX2_placeSize_61 : decode cX2_placeSize 61 = .ok (.invokevirtual 92, 3) := by decide +kernel
theorem dX2_placeSize_64 : decode cX2_placeSize 64 = .ok (.ifCond .ne 4, 3) := by decide +kernel
theorem dX2_placeSize_67 : decode cX2_placeSize 67 = .ok (.return_, 1) := by decide +kernel
theorem dX2_placeSize_68 : decode cX2_placeSize 68 = .ok (.aload_n 0, 1) := by decide +kernel
theorem dX2_placeSize_69 : decode cX2_placeSize 69 = .ok (.getfield 16, 3) := by decide +kernel
theorem dX2_placeSize_72 : decode cX2_placeSize 72 = .ok (.iload_n 1, 1) := by decide +kernel
theorem dX2_placeSize_73 : decode cX2_placeSize 73 = .ok (.iload_n 2, 1) := by decide +kernel
theorem dX2_placeSize_74 : decode cX2_placeSize 74 = .ok (.iastore, 1) := by decide +kernel
theorem dX2_placeSize_75 : decode cX2_placeSize 75 = .ok (.aload_n 0, 1) := by decide +kernel
theorem dX2_placeSize_76 : decode cX2_placeSize 76 = .ok (.getfield 20, 3) := by decide +kernel
theorem dX2_placeSize_79 : decode cX2_placeSize 79 = .ok (.iload_n 1, 1) := by decide +kernel
theorem dX2_placeSize_80 : decode cX2_placeSize 80 = .ok (.iload 5, 2) := by decide +kernel
theorem dX2_placeSize_82 : decode cX2_placeSize 82 = .ok (.iastore, 1) := by decide +kernel
theorem dX2_placeSize_83 : decode cX2_placeSize 83 = .ok (.aload_n 0, 1) := by decide +kernel
theorem dX2_placeSize_84 : decode cX2_placeSize 84 = .ok (.iload_n 1, 1) := by decide +kernel
theorem dX2_placeSize_85 : decode cX2_placeSize 85 = .ok (.iconst 1, 1) := by decide +kernel
theorem dX2_placeSize_86 : decode cX2_placeSize 86 = .ok (.iadd, 1) := by decide +kernel
theorem dX2_placeSize_87 : decode cX2_placeSize 87 = .ok (.iload 7, 2) := by decide +kernel
theorem dX2_placeSize_89 : decode cX2_placeSize 89 = .ok (.iload 6, 2) := by decide +kernel
theorem dX2_placeSize_91 : decode cX2_placeSize 91 = .ok (.invokevirtual 53, 3) := by decide +kernel
theorem dX2_placeSize_94 : decode cX2_placeSize 94 = .ok (.return_, 1) := by decide +kernel
theorem dX2_run_0 : decode cX2_run 0 = .ok (.aload_n 0, 1) := by decide +kernel
theorem dX2_run_1 : decode cX2_run 1 = .ok (.iload_n 1, 1) := by decide +kernel
theorem dX2_run_2 : decode cX2_run 2 = .ok (.putfield 23, 3) := by decide +kernel
theorem dX2_run_5 : decode cX2_run 5 = .ok (.aload_n 0, 1) := by decide +kernel
theorem dX2_run_6 : decode cX2_run 6 = .ok (.iload_n 2, 1) := by decide +kernel
theorem dX2_run_7 : decode cX2_run 7 = .ok (.putfield 27, 3) := by decide +kernel
theorem dX2_run_10 : decode cX2_run 10 = .ok (.aload_n 0, 1) := by decide +kernel
theorem dX2_run_11 : decode cX2_run 11 = .ok (.iconst 0, 1) := by decide +kernel
theorem dX2_run_12 : decode cX2_run 12 = .ok (.putfield 36, 3) := by decide +kernel
theorem dX2_run_15 : decode cX2_run 15 = .ok (.aload_n 0, 1) := by decide +kernel
theorem dX2_run_16 : decode cX2_run 16 = .ok (.invokevirtual 50, 3) := by decide +kernel
theorem dX2_run_19 : decode cX2_run 19 = .ok (.aload_n 0, 1) := by decide +kernel
theorem dX2_run_20 : decode cX2_run 20 = .ok (.iconst 1, 1) := by decide +kernel
theorem dX2_run_21 : decode cX2_run 21 = .ok (.iconst 0, 1) := by decide +kernel
theorem dX2_run_22 : decode cX2_run 22 = .ok (.iconst 0, 1) := by decide +kernel
theorem dX2_run_23 : decode cX2_run 23 = .ok (.invokevirtual 53, 3) := by decide +kernel
theorem dX2_run_26 : decode cX2_run 26 = .ok (.return_, 1) := by decide +kernel
theorem dX3_duct_0 : decode cX3_duct 0 = .ok (.iload_n 1, 1) := by decide +kernel
theorem dX3_duct_1 : decode cX3_duct 1 = .ok (.iconst 0, 1) := by decide +kernel
theorem dX3_duct_2 : decode cX3_duct 2 = .ok (.aload_n 0, 1) := by decide +kernel
theorem dX3_duct_3 : decode cX3_duct 3 = .ok (.getfield 10, 3) := by decide +kernel
theorem dX3_duct_6 : decode cX3_duct 6 = .ok (.getfield 43, 3) := by decide +kernel
theorem dX3_duct_9 : decode cX3_duct 9 = .ok (.invokestatic 46, 3) := by decide +kernel
theorem dX3_duct_12 : decode cX3_duct 12 = .ok (.iload_n 2, 1) := by decide +kernel
theorem dX3_duct_13 : decode cX3_duct 13 = .ok (.iconst 1, 1) := by decide +kernel
theorem dX3_duct_14 : decode cX3_duct 14 = .ok (.bipush 100, 2) := by decide +kernel
theorem dX3_duct_16 : decode cX3_duct 16 = .ok (.invokestatic 46, 3) := by decide +kernel
theorem dX3_duct_19 : decode cX3_duct 19 = .ok (.iload_n 3, 1) := by decide +kernel
theorem dX3_duct_20 : decode cX3_duct 20 = .ok (.iconst 0, 1) := by decide +kernel
theorem dX3_duct_21 : decode cX3_duct 21 = .ok (.bipush 50, 2) := by decide +kernel
theorem dX3_duct_23 : decode cX3_duct 23 = .ok (.invokestatic 46, 3) := by decide +kernel
theorem dX3_duct_26 : decode cX3_duct 26 = .ok (.aload_n 0, 1) := by decide +kernel
theorem dX3_duct_27 : decode cX3_duct 27 = .ok (.getfield 10, 3) := by decide +kernel
theorem dX3_duct_30 : decode cX3_duct 30 = .ok (.getfield 43, 3) := by decide +kernel
theorem dX3_duct_33 : decode cX3_duct 33 = .ok (.bipush 6, 2) := by decide +kernel
theorem dX3_duct_35 : decode cX3_duct 35 = .ok (.if_icmp .lt 13, 3) := by decide +kernel
theorem dX3_duct_38 : decode cX3_duct 38 = .ok (.new 50, 3) := by decide +kernel
theorem dX3_duct_41 : decode cX3_duct 41 = .ok (.dup, 1) := by decide +kernel
theorem dX3_duct_42 : decode cX3_duct 42 = .ok (.ldc 52, 2) := by decide +kernel
theorem dX3_duct_44 : decode cX3_duct 44 = .ok (.invokespecial 54, 3) := by decide +kernel
theorem dX3_duct_47 : decode cX3_duct 47 = .ok (.athrow, 1) := by decide +kernel
theorem dX3_duct_48 : decode cX3_duct 48 = .ok (.aload_n 0, 1) := by decide +kernel
theorem dX3_duct_49 : decode cX3_duct 49 = .ok (.iconst 1, 1) := by decide +kernel
theorem dX3_duct_50 : decode cX3_duct 50 = .ok (.putfield 39, 3) := by decide +kernel
theorem dX3_duct_53 : decode cX3_duct 53 = .ok (.aload_n 0, 1) := by decide +kernel
theorem dX3_duct_54 : decode cX3_duct 54 = .ok (.getfield 10, 3) := by decide +kernel
theorem dX3_duct_57 : decode cX3_duct 57 = .ok (.iload_n 1, 1) := by decide +kernel
theorem dX3_duct_58 : decode cX3_duct 58 = .ok (.iload_n 2, 1) := by decide +kernel
theorem dX3_duct_59 : decode cX3_duct 59 = .ok (.iload_n 3, 1) := by decide +kernel
theorem dX3_duct_60 : decode cX3_duct 60 = .ok (.invokevirtual 57, 3) := by decide +kernel
theorem dX3_duct_63 : decode cX3_duct 63 = .ok (.ireturn, 1) := by decide +kernel
theorem dX3_need_0 : decode cX3_need 0 = .ok (.iload_n 1, 1) := by decide +kernel
theorem dX3_need_1 : decode cX3_need 1 = .ok (.iconst 1, 1) := by decide +kernel
theorem dX3_need_2 : decode cX3_need 2 = .ok (.aload_n 0, 1) := by decide +kernel
theorem dX3_need_3 : decode cX3_need 3 = .ok (.getfield 10, 3) := by decide +kernel
theorem dX3_need_6 : decode cX3_need 6 = .ok (.getfield 43, 3) := by decide +kernel
theorem dX3_need_9 : decode cX3_need 9 = .ok (.invokestatic 46, 3) := by decide +kernel
theorem dX3_need_12 : decode cX3_need 12 = .ok (.iload_n 2, 1) := by decide +kernel
theorem dX3_need_13 : decode cX3_need 13 = .ok (.iconst 0, 1) := by decide +kernel
theorem dX3_need_14 : decode cX3_need 14 = .ok (.sipush 1000, 3) := by decide +kernel
theorem dX3_need_17 : decode cX3_need 17 = .ok (.invokestatic 46, 3) := by decide +kernel
theorem dX3_need_20 : decode cX3_need 20 = .ok (.aload_n 0, 1) := by decide +kernel
theorem dX3_need_21 : decode cX3_need 21 = .ok (.iconst 1, 1) := by decide +kernel
theorem dX3_need_22 : decode cX3_need 22 = .ok (.putfield 39, 3) := by decide +kernel
theorem dX3_need_25 : decode cX3_need 25 = .ok (.aload_n 0, 1) := by decide +kernel
theorem dX3_need_26 : decode cX3_need 26 = .ok (.getfield 10, 3) := by decide +kernel
theorem dX3_need_29 : decode cX3_need 29 = .ok (.iload_n 1, 1) := by decide +kernel
theorem dX3_need_30 : decode cX3_need 30 = .ok (.iload_n 2, 1) := by decide +kernel
theorem dX3_need_31 : decode cX3_need 31 = .ok (.invokevirtual 61, 3) := by decide +kernel
theorem dX3_need_34 : decode cX3_need 34 = .ok (.ireturn, 1) := by decide +kernel
theorem dX3_size_0 : decode cX3_size 0 = .ok (.iload_n 1, 1) := by decide +kernel
theorem dX3_size_1 : decode cX3_size 1 = .ok (.iconst 1, 1) := by decide +kernel
theorem dX3_size_2 : decode cX3_size 2 = .ok (.sipush 1000, 3) := by decide +kernel
theorem dX3_size_5 : decode cX3_size 5 = .ok (.invokestatic 46, 3) := by decide +kernel
theorem dX3_size_8 : decode cX3_size 8 = .ok (.iload_n 2, 1) := by decide +kernel
theorem dX3_size_9 : decode cX3_size 9 = .ok (.iconst 1, 1) := by decide +kernel
theorem dX3_size_10 : decode cX3_size 10 = .ok (.sipush 1000, 3) := by decide +kernel
theorem dX3_size_13 : decode cX3_size 13 = .ok (.invokestatic 46, 3) := by decide +kernel
theorem dX3_size_16 : decode cX3_size 16 = .ok (.aload_n 0, 1) := by decide +kernel
theorem dX3_size_17 : decode cX3_size 17 = .ok (.getfield 10, 3) := by decide +kernel
theorem dX3_size_20 : decode cX3_size 20 = .ok (.getfield 65, 3) := by decide +kernel
theorem dX3_size_23 : decode cX3_size 23 = .ok (.iconst 4, 1) := by decide +kernel
theorem dX3_size_24 : decode cX3_size 24 = .ok (.if_icmp .lt 13, 3) := by decide +kernel
theorem dX3_size_27 : decode cX3_size 27 = .ok (.new 50, 3) := by decide +kernel
theorem dX3_size_30 : decode cX3_size 30 = .ok (.dup, 1) := by decide +kernel
theorem dX3_size_31 : decode cX3_size 31 = .ok (.ldc 68, 2) := by decide +kernel
theorem dX3_size_33 : decode cX3_size 33 = .ok (.invokespecial 54, 3) := by decide +kernel
theorem dX3_size_36 : decode cX3_size 36 = .ok (.athrow, 1) := by decide +kernel
theorem dX3_size_37 : decode cX3_size 37 = .ok (.aload_n 0, 1) := by decide +kernel
theorem dX3_size_38 : decode cX3_size 38 = .ok (.iconst 1, 1) := by decide +kernel
theorem dX3_size_39 : decode cX3_size 39 = .ok (.putfield 39, 3) := by decide +kernel
theorem dX3_size_42 : decode cX3_size 42 = .ok (.aload_n 0, 1) := by decide +kernel
theorem dX3_size_43 : decode cX3_size 43 = .ok (.getfield 10, 3) := by decide +kernel
theorem dX3_size_46 : decode cX3_size 46 = .ok (.iload_n 1, 1) := by decide +kernel
theorem dX3_size_47 : decode cX3_size 47 = .ok (.iload_n 2, 1) := by decide +kernel
theorem dX3_size_48 : decode cX3_size 48 = .ok (.invokevirtual 70, 3) := by decide +kernel
theorem dX3_size_51 : decode cX3_size 51 = .ok (.ireturn, 1) := by decide +kernel
theorem dX3_changeSpeedLimit_0 : decode cX3_changeSpeedLimit 0 = .ok (.iload_n 1, 1) := by decide +kernel
theorem dX3_changeSpeedLimit_1 : decode cX3_changeSpeedLimit 1 = .ok (.iconst 1, 1) := by decide +kernel
theorem dX3_changeSpeedLimit_2 : decode cX3_changeSpeedLimit 2 = .ok (.ldc 136, 2) := by decide +kernel
theorem dX3_changeSpeedLimit_4 : decode cX3_changeSpeedLimit 4 = .ok (.invokestatic 46, 3) := by decide +kernel
theorem dX3_changeSpeedLimit_7 : decode cX3_changeSpeedLimit 7 = .ok (.aload_n 0, 1) := by decide +kernel
theorem dX3_changeSpeedLimit_8 : decode cX3_changeSpeedLimit 8 = .ok (.getfield 10, 3) := by decide +kernel
theorem dX3_changeSpeedLimit_11 : decode cX3_changeSpeedLimit 11 = .ok (.getfield 137, 3) := by decide +kernel
theorem dX3_changeSpeedLimit_14 : decode cX3_changeSpeedLimit 14 = .ok (.istore_n 2, 1) := by decide +kernel
theorem dX3_changeSpeedLimit_15 : decode cX3_changeSpeedLimit 15 = .ok (.aload_n 0, 1) := by decide +kernel
theorem dX3_changeSpeedLimit_16 : decode cX3_changeSpeedLimit 16 = .ok (.getfield 10, 3) := by decide +kernel
theorem dX3_changeSpeedLimit_19 : decode cX3_changeSpeedLimit 19 = .ok (.iload_n 1, 1) := by decide +kernel
theorem dX3_changeSpeedLimit_20 : decode cX3_changeSpeedLimit 20 = .ok (.putfield 137, 3) := by decide +kernel
theorem dX3_changeSpeedLimit_23 : decode cX3_changeSpeedLimit 23 = .ok (.aload_n 0, 1) := by decide +kernel
theorem dX3_changeSpeedLimit_24 : decode cX3_changeSpeedLimit 24 = .ok (.iconst 1, 1) := by decide +kernel
theorem dX3_changeSpeedLimit_25 : decode cX3_changeSpeedLimit 25 = .ok (.putfield 39, 3) := by decide +kernel
theorem dX3_changeSpeedLimit_28 : decode cX3_changeSpeedLimit 28 = .ok (.iload_n 2, 1) := by decide +kernel
theorem dX3_changeSpeedLimit_29 : decode cX3_changeSpeedLimit 29 = .ok (.ireturn, 1) := by decide +kernel
theorem dX3_changeEnergyPrice_0 : decode cX3_changeEnergyPrice 0 = .ok (.iload_n 1, 1) := by decide +kernel
theorem dX3_changeEnergyPrice_1 : decode cX3_changeEnergyPrice 1 = .ok (.iconst 0, 1) := by decide +kernel
theorem dX3_changeEnergyPrice_2 : decode cX3_changeEnergyPrice 2 = .ok (.sipush 1000, 3) := by decide +kernel
theorem dX3_changeEnergyPrice_5 : decode cX3_changeEnergyPrice 5 = .ok (.invokestatic 46, 3) := by decide +kernel
theorem dX3_changeEnergyPrice_8 : decode cX3_changeEnergyPrice 8 = .ok (.aload_n 0, 1) := by decide +kernel
theorem dX3_changeEnergyPrice_9 : decode cX3_changeEnergyPrice 9 = .ok (.getfield 35, 3) := by decide +kernel
theorem dX3_changeEnergyPrice_12 : decode cX3_changeEnergyPrice 12 = .ok (.istore_n 2, 1) := by decide +kernel
theorem dX3_changeEnergyPrice_13 : decode cX3_changeEnergyPrice 13 = .ok (.aload_n 0, 1) := by decide +kernel
theorem dX3_changeEnergyPrice_14 : decode cX3_changeEnergyPrice 14 = .ok (.iload_n 1, 1) := by decide +kernel
theorem dX3_changeEnergyPrice_15 : decode cX3_changeEnergyPrice 15 = .ok (.putfield 35, 3) := by decide +kernel
theorem dX3_changeEnergyPrice_18 : decode cX3_changeEnergyPrice 18 = .ok (.aload_n 0, 1) := by decide +kernel
theorem dX3_changeEnergyPrice_19 : decode cX3_changeEnergyPrice 19 = .ok (.iconst 1, 1) := by decide +kernel
theorem dX3_changeEnergyPrice_20 : decode cX3_changeEnergyPrice 20 = .ok (.putfield 39, 3) := by decide +kernel
theorem dX3_changeEnergyPrice_23 : decode cX3_changeEnergyPrice 23 = .ok (.iload_n 2, 1) := by decide +kernel
theorem dX3_changeEnergyPrice_24 : decode cX3_changeEnergyPrice 24 = .ok (.ireturn, 1) := by decide +kernel
theorem dX3_set_0 : decode cX3_set 0 = .ok (.iload_n 1, 1) := by decide +kernel
theorem dX3_set_1 : decode cX3_set 1 = .ok (.iconst 0, 1) := by decide +kernel
theorem dX3_set_2 : decode cX3_set 2 = .ok (.iconst 1, 1) := by decide +kernel
theorem dX3_set_3 : decode cX3_set 3 = .ok (.invokestatic 46, 3) := by decide +kernel
theorem dX3_set_6 : decode cX3_set 6 = .ok (.iload_n 1, 1) := by decide +kernel
theorem dX3_set_7 : decode cX3_set 7 = .ok (.ifCond .ne 11, 3) := by decide +kernel
theorem dX3_set_10 : decode cX3_set 10 = .ok (.aload_n 0, 1) := by decide +kernel
theorem dX3_set_11 : decode cX3_set 11 = .ok (.iload_n 2, 1) := by decide +kernel
theorem dX3_set_12 : decode cX3_set 12 = .ok (.invokevirtual 73, 3) := by decide +kernel
theorem dX3_set_15 : decode cX3_set 15 = .ok (.goto 8, 3) := by decide +kernel
theorem dX3_set_18 : decode cX3_set 18 = .ok (.aload_n 0, 1) := by decide +kernel
theorem dX3_set_19 : decode cX3_set 19 = .ok (.iload_n 2, 1) := by decide +kernel
theorem dX3_set_20 : decode cX3_set 20 = .ok (.invokevirtual 77, 3) := by decide +kernel
theorem dX3_set_23 : decode cX3_set 23 = .ok (.ireturn, 1) := by decide +kernel
theorem dX3_fan_0 : decode cX3_fan 0 = .ok (.iload_n 1, 1) := by decide +kernel
theorem dX3_fan_1 : decode cX3_fan 1 = .ok (.iconst 0, 1) := by decide +kernel
theorem dX3_fan_2 : decode cX3_fan 2 = .ok (.sipush 10000, 3) := by decide +kernel
theorem dX3_fan_5 : decode cX3_fan 5 = .ok (.invokestatic 46, 3) := by decide +kernel
theorem dX3_fan_8 : decode cX3_fan 8 = .ok (.iload_n 2, 1) := by decide +kernel
theorem dX3_fan_9 : decode cX3_fan 9 = .ok (.iconst 0, 1) := by decide +kernel
theorem dX3_fan_10 : decode cX3_fan 10 = .ok (.sipush 300, 3) := by decide +kernel
theorem dX3_fan_13 : decode cX3_fan 13 = .ok (.invokestatic 46, 3) := by decide +kernel
theorem dX3_fan_16 : decode cX3_fan 16 = .ok (.aload_n 0, 1) := by decide +kernel
theorem dX3_fan_17 : decode cX3_fan 17 = .ok (.getfield 19, 3) := by decide +kernel
theorem dX3_fan_20 : decode cX3_fan 20 = .ok (.iload_n 1, 1) := by decide +kernel
theorem dX3_fan_21 : decode cX3_fan 21 = .ok (.iload_n 2, 1) := by decide +kernel
theorem dX3_fan_22 : decode cX3_fan 22 = .ok (.invokevirtual 80, 3) := by decide +kernel
theorem dX3_fan_25 : decode cX3_fan 25 = .ok (.ifCond .ne 13, 3) := by decide +kernel
theorem dX3_fan_28 : decode cX3_fan 28 = .ok (.new 50, 3) := by decide +kernel
theorem dX3_fan_31 : decode cX3_fan 31 = .ok (.dup, 1) := by decide +kernel
theorem dX3_fan_32 : decode cX3_fan 32 = .ok (.ldc 84, 2) := by decide +kernel
theorem dX3_fan_34 : decode cX3_fan 34 = .ok (.invokespecial 54, 3) := by decide +kernel
theorem dX3_fan_37 : decode cX3_fan 37 = .ok (.athrow, 1) := by decide +kernel
theorem dX3_fan_38 : decode cX3_fan 38 = .ok (.aload_n 0, 1) := by decide +kernel
theorem dX3_fan_39 : decode cX3_fan 39 = .ok (.iconst 1, 1) := by decide +kernel
theorem dX3_fan_40 : decode cX3_fan 40 = .ok (.putfield 39, 3) := by decide +kernel
theorem dX3_fan_43 : decode cX3_fan 43 = .ok (.aload_n 0, 1) := by decide +kernel
theorem dX3_fan_44 : decode cX3_fan 44 = .ok (.getfield 19, 3) := by decide +kernel
theorem dX3_fan_47 : decode cX3_fan 47 = .ok (.iload_n 1, 1) := by decide +kernel
theorem dX3_fan_48 : decode cX3_fan 48 = .ok (.iload_n 2, 1) := by decide +kernel
theorem dX3_fan_49 : decode cX3_fan 49 = .ok (.invokevirtual 86, 3) := by decide +kernel
theorem dX3_fan_52 : decode cX3_fan 52 = .ok (.ireturn, 1) := by decide +kernel
theorem dX3_gives_0 : decode cX3_gives 0 = .ok (.aload_n 0, 1) := by decide +kernel
theorem dX3_gives_1 : decode cX3_gives 1 = .ok (.getfield 19, 3) := by decide +kernel
theorem dX3_gives_4 : decode cX3_gives 4 = .ok (.aload_n 0, 1) := by decide +kernel
theorem dX3_gives_5 : decode cX3_gives 5 = .ok (.getfield 10, 3) := by decide +kernel
theorem dX3_gives_8 : decode cX3_gives 8 = .ok (.getfield 89, 3) := by decide +kernel
theorem dX3_gives_11 : decode cX3_gives 11 = .ok (.iconst 0, 1) := by decide +kernel
theorem dX3_gives_12 : decode cX3_gives 12 = .ok (.iaload, 1) := by decide +kernel
theorem dX3_gives_13 : decode cX3_gives 13 = .ok (.invokevirtual 93, 3) := by decide +kernel
theorem dX3_gives_16 : decode cX3_gives 16 = .ok (.ireturn, 1) := by decide +kernel
theorem dX3_flow_0 : decode cX3_flow 0 = .ok (.iload_n 1, 1) := by decide +kernel
theorem dX3_flow_1 : decode cX3_flow 1 = .ok (.iconst 1, 1) := by decide +kernel
theorem dX3_flow_2 : decode cX3_flow 2 = .ok (.aload_n 0, 1) := by decide +kernel
theorem dX3_flow_3 : decode cX3_flow 3 = .ok (.getfield 10, 3) := by decide +kernel
theorem dX3_flow_6 : decode cX3_flow 6 = .ok (.getfield 43, 3) := by decide +kernel
theorem dX3_flow_9 : decode cX3_flow 9 = .ok (.invokestatic 46, 3) := by decide +kernel
theorem dX3_flow_12 : decode cX3_flow 12 = .ok (.aload_n 0, 1) := by decide +kernel
theorem dX3_flow_13 : decode cX3_flow 13 = .ok (.getfield 10, 3) := by decide +kernel
theorem dX3_flow_16 : decode cX3_flow 16 = .ok (.getfield 89, 3) := by decide +kernel
theorem dX3_flow_19 : decode cX3_flow 19 = .ok (.iload_n 1, 1) := by decide +kernel
theorem dX3_flow_20 : decode cX3_flow 20 = .ok (.iaload, 1) := by decide +kernel
theorem dX3_flow_21 : decode cX3_flow 21 = .ok (.ireturn, 1) := by decide +kernel
theorem dX3_told_0 : decode cX3_told 0 = .ok (.iload_n 1, 1) := by decide +kernel
theorem dX3_told_1 : decode cX3_told 1 = .ok (.iconst 1, 1) := by decide +kernel
theorem dX3_told_2 : decode cX3_told 2 = .ok (.aload_n 0, 1) := by decide +kernel
theorem dX3_told_3 : decode cX3_told 3 = .ok (.getfield 10, 3) := by decide +kernel
theorem dX3_told_6 : decode cX3_told 6 = .ok (.getfield 43, 3) := by decide +kernel
theorem dX3_told_9 : decode cX3_told 9 = .ok (.invokestatic 46, 3) := by decide +kernel
theorem dX3_told_12 : decode cX3_told 12 = .ok (.iload_n 2, 1) := by decide +kernel
theorem dX3_told_13 : decode cX3_told 13 = .ok (.iconst 0, 1) := by decide +kernel
theorem dX3_told_14 : decode cX3_told 14 = .ok (.aload_n 0, 1) := by decide +kernel
theorem dX3_told_15 : decode cX3_told 15 = .ok (.getfield 10, 3) := by decide +kernel
theorem dX3_told_18 : decode cX3_told 18 = .ok (.getfield 65, 3) := by decide +kernel
theorem dX3_told_21 : decode cX3_told 21 = .ok (.iconst 1, 1) := by decide +kernel
theorem dX3_told_22 : decode cX3_told 22 = .ok (.isub, 1) := by decide +kernel
theorem dX3_told_23 : decode cX3_told 23 = .ok (.invokestatic 46, 3) := by decide +kernel
theorem dX3_told_26 : decode cX3_told 26 = .ok (.iload_n 3, 1) := by decide +kernel
theorem dX3_told_27 : decode cX3_told 27 = .ok (.iconst 0, 1) := by decide +kernel
theorem dX3_told_28 : decode cX3_told 28 = .ok (.iconst 1, 1) := by decide +kernel
theorem dX3_told_29 : decode cX3_told 29 = .ok (.invokestatic 46, 3) := by decide +kernel
theorem dX3_told_32 : decode cX3_told 32 = .ok (.iload_n 3, 1) := by decide +kernel
theorem dX3_told_33 : decode cX3_told 33 = .ok (.ifCond .ne 15, 3) := by decide +kernel
theorem dX3_told_36 : decode cX3_told 36 = .ok (.aload_n 0, 1) := by decide +kernel
theorem dX3_told_37 : decode cX3_told 37 = .ok (.getfield 10, 3) := by decide +kernel
theorem dX3_told_40 : decode cX3_told 40 = .ok (.iload_n 1, 1) := by decide +kernel
theorem dX3_told_41 : decode cX3_told 41 = .ok (.iload_n 2, 1) := by decide +kernel
theorem dX3_told_42 : decode cX3_told 42 = .ok (.invokevirtual 96, 3) := by decide +kernel
theorem dX3_told_45 : decode cX3_told 45 = .ok (.goto 12, 3) := by decide +kernel
theorem dX3_told_48 : decode cX3_told 48 = .ok (.aload_n 0, 1) := by decide +kernel
theorem dX3_told_49 : decode cX3_told 49 = .ok (.getfield 10, 3) := by decide +kernel
theorem dX3_told_52 : decode cX3_told 52 = .ok (.iload_n 1, 1) := by decide +kernel
theorem dX3_told_53 : decode cX3_told 53 = .ok (.iload_n 2, 1) := by decide +kernel
theorem dX3_told_54 : decode cX3_told 54 = .ok (.invokevirtual 99, 3) := by decide +kernel
theorem dX3_told_57 : decode cX3_told 57 = .ok (.ireturn, 1) := by decide +kernel
theorem dX3_bestChoice_0 : decode cX3_bestChoice 0 = .ok (.aload_n 0, 1) := by decide +kernel
theorem dX3_bestChoice_1 : decode cX3_bestChoice 1 = .ok (.getfield 39, 3) := by decide +kernel
theorem dX3_bestChoice_4 : decode cX3_bestChoice 4 = .ok (.ifCond .eq 23, 3) := by decide +kernel
theorem dX3_bestChoice_7 : decode cX3_bestChoice 7 = .ok (.aload_n 0, 1) := by decide +kernel
theorem dX3_bestChoice_8 : decode cX3_bestChoice 8 = .ok (.getfield 28, 3) := by decide +kernel
theorem dX3_bestChoice_11 : decode cX3_bestChoice 11 = .ok (.aload_n 0, 1) := by decide +kernel
theorem dX3_bestChoice_12 : decode cX3_bestChoice 12 = .ok (.invokevirtual 140, 3) := by decide +kernel
theorem dX3_bestChoice_15 : decode cX3_bestChoice 15 = .ok (.aload_n 0, 1) := by decide +kernel
theorem dX3_bestChoice_16 : decode cX3_bestChoice 16 = .ok (.getfield 35, 3) := by decide +kernel
theorem dX3_bestChoice_19 : decode cX3_bestChoice 19 = .ok (.invokevirtual 123, 3) := by decide +kernel
theorem dX3_bestChoice_22 : decode cX3_bestChoice 22 = .ok (.aload_n 0, 1) := by decide +kernel
theorem dX3_bestChoice_23 : decode cX3_bestChoice 23 = .ok (.iconst 0, 1) := by decide +kernel
theorem dX3_bestChoice_24 : decode cX3_bestChoice 24 = .ok (.putfield 39, 3) := by decide +kernel
theorem dX3_bestChoice_27 : decode cX3_bestChoice 27 = .ok (.aload_n 0, 1) := by decide +kernel
theorem dX3_bestChoice_28 : decode cX3_bestChoice 28 = .ok (.getfield 28, 3) := by decide +kernel
theorem dX3_bestChoice_31 : decode cX3_bestChoice 31 = .ok (.areturn, 1) := by decide +kernel
theorem dX3_best_0 : decode cX3_best 0 = .ok (.iload_n 1, 1) := by decide +kernel
theorem dX3_best_1 : decode cX3_best 1 = .ok (.iconst 0, 1) := by decide +kernel
theorem dX3_best_2 : decode cX3_best 2 = .ok (.iconst 1, 1) := by decide +kernel
theorem dX3_best_3 : decode cX3_best 3 = .ok (.invokestatic 46, 3) := by decide +kernel
theorem dX3_best_6 : decode cX3_best 6 = .ok (.aload_n 0, 1) := by decide +kernel
theorem dX3_best_7 : decode cX3_best 7 = .ok (.invokevirtual 102, 3) := by decide +kernel
theorem dX3_best_10 : decode cX3_best 10 = .ok (.astore_n 2, 1) := by decide +kernel
theorem dX3_best_11 : decode cX3_best 11 = .ok (.aload_n 2, 1) := by decide +kernel
theorem dX3_best_12 : decode cX3_best 12 = .ok (.getfield 106, 3) := by decide +kernel
theorem dX3_best_15 : decode cX3_best 15 = .ok (.ifCond .ne 5, 3) := by decide +kernel
theorem dX3_best_18 : decode cX3_best 18 = .ok (.iconst (-1), 1) := by decide +kernel
theorem dX3_best_19 : decode cX3_best 19 = .ok (.ireturn, 1) := by decide +kernel
theorem dX3_best_20 : decode cX3_best 20 = .ok (.iload_n 1, 1) := by decide +kernel
theorem dX3_best_21 : decode cX3_best 21 = .ok (.ifCond .ne 10, 3) := by decide +kernel
theorem dX3_best_24 : decode cX3_best 24 = .ok (.aload_n 2, 1) := by decide +kernel
theorem dX3_best_25 : decode cX3_best 25 = .ok (.getfield 109, 3) := by decide +kernel
theorem dX3_best_28 : decode cX3_best 28 = .ok (.goto 7, 3) := by decide +kernel
theorem dX3_best_31 : decode cX3_best 31 = .ok (.aload_n 2, 1) := by decide +kernel
theorem dX3_best_32 : decode cX3_best 32 = .ok (.getfield 112, 3) := by decide +kernel
theorem dX3_best_35 : decode cX3_best 35 = .ok (.ireturn, 1) := by decide +kernel
theorem dX3_chosen_0 : decode cX3_chosen 0 = .ok (.iload_n 1, 1) := by decide +kernel
theorem dX3_chosen_1 : decode cX3_chosen 1 = .ok (.iconst 1, 1) := by decide +kernel
theorem dX3_chosen_2 : decode cX3_chosen 2 = .ok (.aload_n 0, 1) := by decide +kernel
theorem dX3_chosen_3 : decode cX3_chosen 3 = .ok (.getfield 10, 3) := by decide +kernel
theorem dX3_chosen_6 : decode cX3_chosen 6 = .ok (.getfield 43, 3) := by decide +kernel
theorem dX3_chosen_9 : decode cX3_chosen 9 = .ok (.invokestatic 46, 3) := by decide +kernel
theorem dX3_chosen_12 : decode cX3_chosen 12 = .ok (.aload_n 0, 1) := by decide +kernel
theorem dX3_chosen_13 : decode cX3_chosen 13 = .ok (.invokevirtual 102, 3) := by decide +kernel
theorem dX3_chosen_16 : decode cX3_chosen 16 = .ok (.astore_n 2, 1) := by decide +kernel
theorem dX3_chosen_17 : decode cX3_chosen 17 = .ok (.aload_n 2, 1) := by decide +kernel
theorem dX3_chosen_18 : decode cX3_chosen 18 = .ok (.getfield 106, 3) := by decide +kernel
theorem dX3_chosen_21 : decode cX3_chosen 21 = .ok (.ifCond .eq 12, 3) := by decide +kernel
theorem dX3_chosen_24 : decode cX3_chosen 24 = .ok (.aload_n 2, 1) := by decide +kernel
theorem dX3_chosen_25 : decode cX3_chosen 25 = .ok (.getfield 115, 3) := by decide +kernel
theorem dX3_chosen_28 : decode cX3_chosen 28 = .ok (.iload_n 1, 1) := by decide +kernel
theorem dX3_chosen_29 : decode cX3_chosen 29 = .ok (.iaload, 1) := by decide +kernel
theorem dX3_chosen_30 : decode cX3_chosen 30 = .ok (.goto 4, 3) := by decide +kernel
theorem dX3_chosen_33 : decode cX3_chosen 33 = .ok (.iconst (-1), 1) := by decide +kernel
theorem dX3_chosen_34 : decode cX3_chosen 34 = .ok (.ireturn, 1) := by decide +kernel
theorem dX3_pressure_0 : decode cX3_pressure 0 = .ok (.iload_n 1, 1) := by decide +kernel
theorem dX3_pressure_1 : decode cX3_pressure 1 = .ok (.iconst 0, 1) := by decide +kernel
theorem dX3_pressure_2 : decode cX3_pressure 2 = .ok (.aload_n 0, 1) := by decide +kernel
theorem dX3_pressure_3 : decode cX3_pressure 3 = .ok (.getfield 10, 3) := by decide +kernel
theorem dX3_pressure_6 : decode cX3_pressure 6 = .ok (.getfield 43, 3) := by decide +kernel
theorem dX3_pressure_9 : decode cX3_pressure 9 = .ok (.invokestatic 46, 3) := by decide +kernel
theorem dX3_pressure_12 : decode cX3_pressure 12 = .ok (.aload_n 0, 1) := by decide +kernel
theorem dX3_pressure_13 : decode cX3_pressure 13 = .ok (.invokevirtual 102, 3) := by decide +kernel
theorem dX3_pressure_16 : decode cX3_pressure 16 = .ok (.astore_n 2, 1) := by decide +kernel
theorem dX3_pressure_17 : decode cX3_pressure 17 = .ok (.aload_n 2, 1) := by decide +kernel
theorem dX3_pressure_18 : decode cX3_pressure 18 = .ok (.getfield 106, 3) := by decide +kernel
theorem dX3_pressure_21 : decode cX3_pressure 21 = .ok (.ifCond .eq 12, 3) := by decide +kernel
theorem dX3_pressure_24 : decode cX3_pressure 24 = .ok (.aload_n 2, 1) := by decide +kernel
theorem dX3_pressure_25 : decode cX3_pressure 25 = .ok (.getfield 118, 3) := by decide +kernel
theorem dX3_pressure_28 : decode cX3_pressure 28 = .ok (.iload_n 1, 1) := by decide +kernel
theorem dX3_pressure_29 : decode cX3_pressure 29 = .ok (.iaload, 1) := by decide +kernel
theorem dX3_pressure_30 : decode cX3_pressure 30 = .ok (.goto 4, 3) := by decide +kernel
theorem dX3_pressure_33 : decode cX3_pressure 33 = .ok (.iconst (-1), 1) := by decide +kernel
theorem dX3_pressure_34 : decode cX3_pressure 34 = .ok (.ireturn, 1) := by decide +kernel
theorem dX3_damper_0 : decode cX3_damper 0 = .ok (.iload_n 1, 1) := by decide +kernel
theorem dX3_damper_1 : decode cX3_damper 1 = .ok (.iconst 1, 1) := by decide +kernel
theorem dX3_damper_2 : decode cX3_damper 2 = .ok (.aload_n 0, 1) := by decide +kernel
theorem dX3_damper_3 : decode cX3_damper 3 = .ok (.getfield 10, 3) := by decide +kernel
theorem dX3_damper_6 : decode cX3_damper 6 = .ok (.getfield 43, 3) := by decide +kernel
theorem dX3_damper_9 : decode cX3_damper 9 = .ok (.invokestatic 46, 3) := by decide +kernel
theorem dX3_damper_12 : decode cX3_damper 12 = .ok (.aload_n 0, 1) := by decide +kernel
theorem dX3_damper_13 : decode cX3_damper 13 = .ok (.invokevirtual 102, 3) := by decide +kernel
theorem dX3_damper_16 : decode cX3_damper 16 = .ok (.astore_n 2, 1) := by decide +kernel
theorem dX3_damper_17 : decode cX3_damper 17 = .ok (.aload_n 2, 1) := by decide +kernel
theorem dX3_damper_18 : decode cX3_damper 18 = .ok (.getfield 106, 3) := by decide +kernel
theorem dX3_damper_21 : decode cX3_damper 21 = .ok (.ifCond .ne 5, 3) := by decide +kernel
theorem dX3_damper_24 : decode cX3_damper 24 = .ok (.iconst (-1), 1) := by decide +kernel
theorem dX3_damper_25 : decode cX3_damper 25 = .ok (.ireturn, 1) := by decide +kernel
theorem dX3_damper_26 : decode cX3_damper 26 = .ok (.aload_n 0, 1) := by decide +kernel
theorem dX3_damper_27 : decode cX3_damper 27 = .ok (.getfield 10, 3) := by decide +kernel
theorem dX3_damper_30 : decode cX3_damper 30 = .ok (.getfield 120, 3) := by decide +kernel
theorem dX3_damper_33 : decode cX3_damper 33 = .ok (.iload_n 1, 1) := by decide +kernel
theorem dX3_damper_34 : decode cX3_damper 34 = .ok (.iaload, 1) := by decide +kernel
theorem dX3_damper_35 : decode cX3_damper 35 = .ok (.ifCond .ne 7, 3) := by decide +kernel
theorem dX3_damper_38 : decode cX3_damper 38 = .ok (.iconst 0, 1) := by decide +kernel
theorem dX3_damper_39 : decode cX3_damper 39 = .ok (.goto 14, 3) := by decide +kernel
theorem dX3_damper_42 : decode cX3_damper 42 = .ok (.aload_n 2, 1) := by decide +kernel
theorem dX3_damper_43 : decode cX3_damper 43 = .ok (.getfield 112, 3) := by decide +kernel
theorem dX3_damper_46 : decode cX3_damper 46 = .ok (.aload_n 2, 1) := by decide +kernel
theorem dX3_damper_47 : decode cX3_damper 47 = .ok (.getfield 118, 3) := by decide +kernel
theorem dX3_damper_50 : decode cX3_damper 50 = .ok (.iload_n 1, 1) := by decide +kernel
theorem dX3_damper_51 : decode cX3_damper 51 = .ok (.iaload, 1) := by decide +kernel
theorem dX3_damper_52 : decode cX3_damper 52 = .ok (.isub, 1) := by decide +kernel
theorem dX3_damper_53 : decode cX3_damper 53 = .ok (.ireturn, 1) := by decide +kernel
theorem dX3_least_0 : decode cX3_least 0 = .ok (.iload_n 1, 1) := by decide +kernel
theorem dX3_least_1 : decode cX3_least 1 = .ok (.iconst 0, 1) := by decide +kernel
theorem dX3_least_2 : decode cX3_least 2 = .ok (.sipush 300, 3) := by decide +kernel
theorem dX3_least_5 : decode cX3_least 5 = .ok (.invokestatic 46, 3) := by decide +kernel
theorem dX3_least_8 : decode cX3_least 8 = .ok (.aload_n 0, 1) := by decide +kernel
theorem dX3_least_9 : decode cX3_least 9 = .ok (.getfield 32, 3) := by decide +kernel
theorem dX3_least_12 : decode cX3_least 12 = .ok (.iload_n 1, 1) := by decide +kernel
theorem dX3_least_13 : decode cX3_least 13 = .ok (.iconst 0, 1) := by decide +kernel
theorem dX3_least_14 : decode cX3_least 14 = .ok (.invokevirtual 123, 3) := by decide +kernel
theorem dX3_least_17 : decode cX3_least 17 = .ok (.aload_n 0, 1) := by decide +kernel
theorem dX3_least_18 : decode cX3_least 18 = .ok (.getfield 32, 3) := by decide +kernel
theorem dX3_least_21 : decode cX3_least 21 = .ok (.getfield 106, 3) := by decide +kernel
theorem dX3_least_24 : decode cX3_least 24 = .ok (.ifCond .eq 13, 3) := by decide +kernel
theorem dX3_least_27 : decode cX3_least 27 = .ok (.aload_n 0, 1) := by decide +kernel
theorem dX3_least_28 : decode cX3_least 28 = .ok (.getfield 32, 3) := by decide +kernel
theorem dX3_least_31 : decode cX3_least 31 = .ok (.getfield 109, 3) := by decide +kernel
theorem dX3_least_34 : decode cX3_least 34 = .ok (.goto 4, 3) := by decide +kernel
theorem dX3_least_37 : decode cX3_least 37 = .ok (.iconst (-1), 1) := by decide +kernel
theorem dX3_least_38 : decode cX3_least 38 = .ok (.ireturn, 1) := by decide +kernel
theorem dX3_worst_0 : decode cX3_worst 0 = .ok (.aload_n 0, 1) := by decide +kernel
theorem dX3_worst_1 : decode cX3_worst 1 = .ok (.invokevirtual 102, 3) := by decide +kernel
theorem dX3_worst_4 : decode cX3_worst 4 = .ok (.astore_n 1, 1) := by decide +kernel
theorem dX3_worst_5 : decode cX3_worst 5 = .ok (.aload_n 1, 1) := by decide +kernel
theorem dX3_worst_6 : decode cX3_worst 6 = .ok (.getfield 106, 3) := by decide +kernel
theorem dX3_worst_9 : decode cX3_worst 9 = .ok (.ifCond .eq 10, 3) := by decide +kernel
theorem dX3_worst_12 : decode cX3_worst 12 = .ok (.aload_n 1, 1) := by decide +kernel
theorem dX3_worst_13 : decode cX3_worst 13 = .ok (.invokevirtual 127, 3) := by decide +kernel
theorem dX3_worst_16 : decode cX3_worst 16 = .ok (.goto 4, 3) := by decide +kernel
theorem dX3_worst_19 : decode cX3_worst 19 = .ok (.iconst (-1), 1) := by decide +kernel
theorem dX3_worst_20 : decode cX3_worst 20 = .ok (.ireturn, 1) := by decide +kernel
theorem dX0_init_0 : decode cX0_init 0 = .ok (.aload_n 0, 1) := by decide +kernel
theorem dX0_init_1 : decode cX0_init 1 = .ok (.invokespecial 3, 3) := by decide +kernel
theorem dX0_init_4 : decode cX0_init 4 = .ok (.aload_n 0, 1) := by decide +kernel
theorem dX0_init_5 : decode cX0_init 5 = .ok (.iconst 5, 1) := by decide +kernel
theorem dX0_init_6 : decode cX0_init 6 = .ok (.newarray .int, 2) := by decide +kernel
theorem dX0_init_8 : decode cX0_init 8 = .ok (.putfield 9, 3) := by decide +kernel
theorem dX0_init_11 : decode cX0_init 11 = .ok (.aload_n 0, 1) := by decide +kernel
theorem dX0_init_12 : decode cX0_init 12 = .ok (.iconst 5, 1) := by decide +kernel
theorem dX0_init_13 : decode cX0_init 13 = .ok (.newarray .int, 2) := by decide +kernel
theorem dX0_init_15 : decode cX0_init 15 = .ok (.putfield 15, 3) := by decide +kernel
theorem dX0_init_18 : decode cX0_init 18 = .ok (.aload_n 0, 1) := by decide +kernel
theorem dX0_init_19 : decode cX0_init 19 = .ok (.iconst 0, 1) := by decide +kernel
theorem dX0_init_20 : decode cX0_init 20 = .ok (.putfield 18, 3) := by decide +kernel
theorem dX0_init_23 : decode cX0_init 23 = .ok (.return_, 1) := by decide +kernel
theorem dX1_init_0 : decode cX1_init 0 = .ok (.aload_n 0, 1) := by decide +kernel
theorem dX1_init_1 : decode cX1_init 1 = .ok (.invokespecial 3, 3) := by decide +kernel
theorem dX1_init_4 : decode cX1_init 4 = .ok (.aload_n 0, 1) := by decide +kernel
theorem dX1_init_5 : decode cX1_init 5 = .ok (.bipush 7, 2) := by decide +kernel
theorem dX1_init_7 : decode cX1_init 7 = .ok (.newarray .int, 2) := by decide +kernel
theorem dX1_init_9 : decode cX1_init 9 = .ok (.putfield 9, 3) := by decide +kernel
theorem dX1_init_12 : decode cX1_init 12 = .ok (.aload_n 0, 1) := by decide +kernel
theorem dX1_init_13 : decode cX1_init 13 = .ok (.bipush 7, 2) := by decide +kernel
theorem dX1_init_15 : decode cX1_init 15 = .ok (.newarray .int, 2) := by decide +kernel
theorem dX1_init_17 : decode cX1_init 17 = .ok (.putfield 15, 3) := by decide +kernel
theorem dX1_init_20 : decode cX1_init 20 = .ok (.aload_n 0, 1) := by decide +kernel
theorem dX1_init_21 : decode cX1_init 21 = .ok (.bipush 7, 2) := by decide +kernel
theorem dX1_init_23 : decode cX1_init 23 = .ok (.newarray .int, 2) := by decide +kernel
theorem dX1_init_25 : decode cX1_init 25 = .ok (.putfield 18, 3) := by decide +kernel
theorem dX1_init_28 : decode cX1_init 28 = .ok (.aload_n 0, 1) := by decide +kernel
theorem dX1_init_29 : decode cX1_init 29 = .ok (.bipush 7, 2) := by decide +kernel
theorem dX1_init_31 : decode cX1_init 31 = .ok (.newarray .int, 2) := by decide +kernel
theorem dX1_init_33 : decode cX1_init 33 = .ok (.putfield 21, 3) := by decide +kernel
theorem dX1_init_36 : decode cX1_init 36 = .ok (.aload_n 0, 1) := by decide +kernel
theorem dX1_init_37 : decode cX1_init 37 = .ok (.bipush 7, 2) := by decide +kernel
theorem dX1_init_39 : decode cX1_init 39 = .ok (.newarray .int, 2) := by decide +kernel
theorem dX1_init_41 : decode cX1_init 41 = .ok (.putfield 24, 3) := by decide +kernel
theorem dX1_init_44 : decode cX1_init 44 = .ok (.aload_n 0, 1) := by decide +kernel
theorem dX1_init_45 : decode cX1_init 45 = .ok (.iconst 0, 1) := by decide +kernel
theorem dX1_init_46 : decode cX1_init 46 = .ok (.putfield 27, 3) := by decide +kernel
theorem dX1_init_49 : decode cX1_init 49 = .ok (.aload_n 0, 1) := by decide +kernel
theorem dX1_init_50 : decode cX1_init 50 = .ok (.iconst 4, 1) := by decide +kernel
theorem dX1_init_51 : decode cX1_init 51 = .ok (.newarray .int, 2) := by decide +kernel
theorem dX1_init_53 : decode cX1_init 53 = .ok (.putfield 31, 3) := by decide +kernel
theorem dX1_init_56 : decode cX1_init 56 = .ok (.aload_n 0, 1) := by decide +kernel
theorem dX1_init_57 : decode cX1_init 57 = .ok (.iconst 4, 1) := by decide +kernel
theorem dX1_init_58 : decode cX1_init 58 = .ok (.newarray .int, 2) := by decide +kernel
theorem dX1_init_60 : decode cX1_init 60 = .ok (.putfield 34, 3) := by decide +kernel
theorem dX1_init_63 : decode cX1_init 63 = .ok (.aload_n 0, 1) := by decide +kernel
theorem dX1_init_64 : decode cX1_init 64 = .ok (.iconst 0, 1) := by decide +kernel
theorem dX1_init_65 : decode cX1_init 65 = .ok (.putfield 37, 3) := by decide +kernel
theorem dX1_init_68 : decode cX1_init 68 = .ok (.aload_n 0, 1) := by decide +kernel
theorem dX1_init_69 : decode cX1_init 69 = .ok (.ldc 40, 2) := by decide +kernel
theorem dX1_init_71 : decode cX1_init 71 = .ok (.putfield 41, 3) := by decide +kernel
theorem dX1_init_74 : decode cX1_init 74 = .ok (.return_, 1) := by decide +kernel
theorem dX2_init_0 : decode cX2_init 0 = .ok (.aload_n 0, 1) := by decide +kernel
theorem dX2_init_1 : decode cX2_init 1 = .ok (.invokespecial 3, 3) := by decide +kernel
theorem dX2_init_4 : decode cX2_init 4 = .ok (.aload_n 0, 1) := by decide +kernel
theorem dX2_init_5 : decode cX2_init 5 = .ok (.bipush 7, 2) := by decide +kernel
theorem dX2_init_7 : decode cX2_init 7 = .ok (.iconst 4, 1) := by decide +kernel
theorem dX2_init_8 : decode cX2_init 8 = .ok (.multianewarray 9 2, 4) := by decide +kernel
theorem dX2_init_12 : decode cX2_init 12 = .ok (.putfield 11, 3) := by decide +kernel
theorem dX2_init_15 : decode cX2_init 15 = .ok (.aload_n 0, 1) := by decide +kernel
theorem dX2_init_16 : decode cX2_init 16 = .ok (.bipush 7, 2) := by decide +kernel
theorem dX2_init_18 : decode cX2_init 18 = .ok (.newarray .int, 2) := by decide +kernel
theorem dX2_init_20 : decode cX2_init 20 = .ok (.putfield 16, 3) := by decide +kernel
theorem dX2_init_23 : decode cX2_init 23 = .ok (.aload_n 0, 1) := by decide +kernel
theorem dX2_init_24 : decode cX2_init 24 = .ok (.bipush 7, 2) := by decide +kernel
theorem dX2_init_26 : decode cX2_init 26 = .ok (.newarray .int, 2) := by decide +kernel
theorem dX2_init_28 : decode cX2_init 28 = .ok (.putfield 20, 3) := by decide +kernel
theorem dX2_init_31 : decode cX2_init 31 = .ok (.aload_n 0, 1) := by decide +kernel
theorem dX2_init_32 : decode cX2_init 32 = .ok (.iconst 0, 1) := by decide +kernel
theorem dX2_init_33 : decode cX2_init 33 = .ok (.putfield 23, 3) := by decide +kernel
theorem dX2_init_36 : decode cX2_init 36 = .ok (.aload_n 0, 1) := by decide +kernel
theorem dX2_init_37 : decode cX2_init 37 = .ok (.iconst 0, 1) := by decide +kernel
theorem dX2_init_38 : decode cX2_init 38 = .ok (.putfield 27, 3) := by decide +kernel
theorem dX2_init_41 : decode cX2_init 41 = .ok (.aload_n 0, 1) := by decide +kernel
theorem dX2_init_42 : decode cX2_init 42 = .ok (.bipush 7, 2) := by decide +kernel
theorem dX2_init_44 : decode cX2_init 44 = .ok (.newarray .int, 2) := by decide +kernel
theorem dX2_init_46 : decode cX2_init 46 = .ok (.putfield 30, 3) := by decide +kernel
theorem dX2_init_49 : decode cX2_init 49 = .ok (.aload_n 0, 1) := by decide +kernel
theorem dX2_init_50 : decode cX2_init 50 = .ok (.bipush 7, 2) := by decide +kernel
theorem dX2_init_52 : decode cX2_init 52 = .ok (.newarray .int, 2) := by decide +kernel
theorem dX2_init_54 : decode cX2_init 54 = .ok (.putfield 33, 3) := by decide +kernel
theorem dX2_init_57 : decode cX2_init 57 = .ok (.aload_n 0, 1) := by decide +kernel
theorem dX2_init_58 : decode cX2_init 58 = .ok (.iconst 0, 1) := by decide +kernel
theorem dX2_init_59 : decode cX2_init 59 = .ok (.putfield 36, 3) := by decide +kernel
theorem dX2_init_62 : decode cX2_init 62 = .ok (.aload_n 0, 1) := by decide +kernel
theorem dX2_init_63 : decode cX2_init 63 = .ok (.iconst 0, 1) := by decide +kernel
theorem dX2_init_64 : decode cX2_init 64 = .ok (.putfield 40, 3) := by decide +kernel
theorem dX2_init_67 : decode cX2_init 67 = .ok (.aload_n 0, 1) := by decide +kernel
theorem dX2_init_68 : decode cX2_init 68 = .ok (.iconst 0, 1) := by decide +kernel
theorem dX2_init_69 : decode cX2_init 69 = .ok (.putfield 43, 3) := by decide +kernel
theorem dX2_init_72 : decode cX2_init 72 = .ok (.aload_n 0, 1) := by decide +kernel
theorem dX2_init_73 : decode cX2_init 73 = .ok (.aload_n 1, 1) := by decide +kernel
theorem dX2_init_74 : decode cX2_init 74 = .ok (.putfield 46, 3) := by decide +kernel
theorem dX2_init_77 : decode cX2_init 77 = .ok (.return_, 1) := by decide +kernel
theorem dX3_init_0 : decode cX3_init 0 = .ok (.aload_n 0, 1) := by decide +kernel
theorem dX3_init_1 : decode cX3_init 1 = .ok (.invokespecial 1, 3) := by decide +kernel
theorem dX3_init_4 : decode cX3_init 4 = .ok (.aload_n 0, 1) := by decide +kernel
theorem dX3_init_5 : decode cX3_init 5 = .ok (.new 7, 3) := by decide +kernel
theorem dX3_init_8 : decode cX3_init 8 = .ok (.dup, 1) := by decide +kernel
theorem dX3_init_9 : decode cX3_init 9 = .ok (.invokespecial 9, 3) := by decide +kernel
theorem dX3_init_12 : decode cX3_init 12 = .ok (.putfield 10, 3) := by decide +kernel
theorem dX3_init_15 : decode cX3_init 15 = .ok (.aload_n 0, 1) := by decide +kernel
theorem dX3_init_16 : decode cX3_init 16 = .ok (.new 16, 3) := by decide +kernel
theorem dX3_init_19 : decode cX3_init 19 = .ok (.dup, 1) := by decide +kernel
theorem dX3_init_20 : decode cX3_init 20 = .ok (.invokespecial 18, 3) := by decide +kernel
theorem dX3_init_23 : decode cX3_init 23 = .ok (.putfield 19, 3) := by decide +kernel
theorem dX3_init_26 : decode cX3_init 26 = .ok (.aload_n 0, 1) := by decide +kernel
theorem dX3_init_27 : decode cX3_init 27 = .ok (.new 23, 3) := by decide +kernel
theorem dX3_init_30 : decode cX3_init 30 = .ok (.dup, 1) := by decide +kernel
theorem dX3_init_31 : decode cX3_init 31 = .ok (.aload_n 0, 1) := by decide +kernel
theorem dX3_init_32 : decode cX3_init 32 = .ok (.getfield 10, 3) := by decide +kernel
theorem dX3_init_35 : decode cX3_init 35 = .ok (.invokespecial 25, 3) := by decide +kernel
theorem dX3_init_38 : decode cX3_init 38 = .ok (.putfield 28, 3) := by decide +kernel
theorem dX3_init_41 : decode cX3_init 41 = .ok (.aload_n 0, 1) := by decide +kernel
theorem dX3_init_42 : decode cX3_init 42 = .ok (.new 23, 3) := by decide +kernel
theorem dX3_init_45 : decode cX3_init 45 = .ok (.dup, 1) := by decide +kernel
theorem dX3_init_46 : decode cX3_init 46 = .ok (.aload_n 0, 1) := by decide +kernel
theorem dX3_init_47 : decode cX3_init 47 = .ok (.getfield 10, 3) := by decide +kernel
theorem dX3_init_50 : decode cX3_init 50 = .ok (.invokespecial 25, 3) := by decide +kernel
theorem dX3_init_53 : decode cX3_init 53 = .ok (.putfield 32, 3) := by decide +kernel
theorem dX3_init_56 : decode cX3_init 56 = .ok (.aload_n 0, 1) := by decide +kernel
theorem dX3_init_57 : decode cX3_init 57 = .ok (.iconst 0, 1) := by decide +kernel
theorem dX3_init_58 : decode cX3_init 58 = .ok (.putfield 35, 3) := by decide +kernel
theorem dX3_init_61 : decode cX3_init 61 = .ok (.aload_n 0, 1) := by decide +kernel
theorem dX3_init_62 : decode cX3_init 62 = .ok (.iconst 1, 1) := by decide +kernel
theorem dX3_init_63 : decode cX3_init 63 = .ok (.putfield 39, 3) := by decide +kernel
theorem dX3_init_66 : decode cX3_init 66 = .ok (.return_, 1) := by decide +kernel
theorem dX3_demand_0 : decode cX3_demand 0 = .ok (.iload_n 0, 1) := by decide +kernel
theorem dX3_demand_1 : decode cX3_demand 1 = .ok (.iload_n 1, 1) := by decide +kernel
theorem dX3_demand_2 : decode cX3_demand 2 = .ok (.if_icmp .lt 8, 3) := by decide +kernel
theorem dX3_demand_5 : decode cX3_demand 5 = .ok (.iload_n 0, 1) := by decide +kernel
theorem dX3_demand_6 : decode cX3_demand 6 = .ok (.iload_n 2, 1) := by decide +kernel
theorem dX3_demand_7 : decode cX3_demand 7 = .ok (.if_icmp .le 13, 3) := by decide +kernel
theorem dX3_demand_10 : decode cX3_demand 10 = .ok (.new 131, 3) := by decide +kernel
theorem dX3_demand_13 : decode cX3_demand 13 = .ok (.dup, 1) := by decide +kernel
theorem dX3_demand_14 : decode cX3_demand 14 = .ok (.ldc 133, 2) := by decide +kernel
theorem dX3_demand_16 : decode cX3_demand 16 = .ok (.invokespecial 135, 3) := by decide +kernel
theorem dX3_demand_19 : decode cX3_demand 19 = .ok (.athrow, 1) := by decide +kernel
theorem dX3_demand_20 : decode cX3_demand 20 = .ok (.return_, 1) := by decide +kernel
