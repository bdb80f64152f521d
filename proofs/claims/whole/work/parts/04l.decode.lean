/-! DECODE: every instruction at its place -/
theorem dL_duct_0 : decode cL_duct 0 = .ok (.aload 4, 2) := by decide +kernel
theorem dL_duct_2 : decode cL_duct 2 = .ok (.iconst 0, 1) := by decide +kernel
theorem dL_duct_3 : decode cL_duct 3 = .ok (.aload_n 0, 1) := by decide +kernel
theorem dL_duct_4 : decode cL_duct 4 = .ok (.iload_n 1, 1) := by decide +kernel
theorem dL_duct_5 : decode cL_duct 5 = .ok (.iload_n 2, 1) := by decide +kernel
theorem dL_duct_6 : decode cL_duct 6 = .ok (.iload_n 3, 1) := by decide +kernel
theorem dL_duct_7 : decode cL_duct 7 = .ok (.invokevirtual 7, 3) := by decide +kernel
theorem dL_duct_10 : decode cL_duct 10 = .ok (.i2l, 1) := by decide +kernel
theorem dL_duct_11 : decode cL_duct 11 = .ok (.lastore, 1) := by decide +kernel
theorem dL_duct_12 : decode cL_duct 12 = .ok (.goto 11, 3) := by decide +kernel
theorem dL_duct_15 : decode cL_duct 15 = .ok (.astore 5, 2) := by decide +kernel
theorem dL_duct_17 : decode cL_duct 17 = .ok (.iconst 1, 1) := by decide +kernel
theorem dL_duct_18 : decode cL_duct 18 = .ok (.ireturn, 1) := by decide +kernel
theorem dL_duct_19 : decode cL_duct 19 = .ok (.astore 5, 2) := by decide +kernel
theorem dL_duct_21 : decode cL_duct 21 = .ok (.iconst 2, 1) := by decide +kernel
theorem dL_duct_22 : decode cL_duct 22 = .ok (.ireturn, 1) := by decide +kernel
theorem dL_duct_23 : decode cL_duct 23 = .ok (.iconst 0, 1) := by decide +kernel
theorem dL_duct_24 : decode cL_duct 24 = .ok (.ireturn, 1) := by decide +kernel
theorem dL_need_0 : decode cL_need 0 = .ok (.aload_n 3, 1) := by decide +kernel
theorem dL_need_1 : decode cL_need 1 = .ok (.iconst 0, 1) := by decide +kernel
theorem dL_need_2 : decode cL_need 2 = .ok (.aload_n 0, 1) := by decide +kernel
theorem dL_need_3 : decode cL_need 3 = .ok (.iload_n 1, 1) := by decide +kernel
theorem dL_need_4 : decode cL_need 4 = .ok (.iload_n 2, 1) := by decide +kernel
theorem dL_need_5 : decode cL_need 5 = .ok (.invokevirtual 17, 3) := by decide +kernel
theorem dL_need_8 : decode cL_need 8 = .ok (.i2l, 1) := by decide +kernel
theorem dL_need_9 : decode cL_need 9 = .ok (.lastore, 1) := by decide +kernel
theorem dL_need_10 : decode cL_need 10 = .ok (.goto 7, 3) := by decide +kernel
theorem dL_need_13 : decode cL_need 13 = .ok (.astore 4, 2) := by decide +kernel
theorem dL_need_15 : decode cL_need 15 = .ok (.iconst 1, 1) := by decide +kernel
theorem dL_need_16 : decode cL_need 16 = .ok (.ireturn, 1) := by decide +kernel
theorem dL_need_17 : decode cL_need 17 = .ok (.iconst 0, 1) := by decide +kernel
theorem dL_need_18 : decode cL_need 18 = .ok (.ireturn, 1) := by decide +kernel
theorem dL_size_0 : decode cL_size 0 = .ok (.aload_n 3, 1) := by decide +kernel
theorem dL_size_1 : decode cL_size 1 = .ok (.iconst 0, 1) := by decide +kernel
theorem dL_size_2 : decode cL_size 2 = .ok (.aload_n 0, 1) := by decide +kernel
theorem dL_size_3 : decode cL_size 3 = .ok (.iload_n 1, 1) := by decide +kernel
theorem dL_size_4 : decode cL_size 4 = .ok (.iload_n 2, 1) := by decide +kernel
theorem dL_size_5 : decode cL_size 5 = .ok (.invokevirtual 21, 3) := by decide +kernel
theorem dL_size_8 : decode cL_size 8 = .ok (.i2l, 1) := by decide +kernel
theorem dL_size_9 : decode cL_size 9 = .ok (.lastore, 1) := by decide +kernel
theorem dL_size_10 : decode cL_size 10 = .ok (.goto 11, 3) := by decide +kernel
theorem dL_size_13 : decode cL_size 13 = .ok (.astore 4, 2) := by decide +kernel
theorem dL_size_15 : decode cL_size 15 = .ok (.iconst 1, 1) := by decide +kernel
theorem dL_size_16 : decode cL_size 16 = .ok (.ireturn, 1) := by decide +kernel
theorem dL_size_17 : decode cL_size 17 = .ok (.astore 4, 2) := by decide +kernel
theorem dL_size_19 : decode cL_size 19 = .ok (.iconst 2, 1) := by decide +kernel
theorem dL_size_20 : decode cL_size 20 = .ok (.ireturn, 1) := by decide +kernel
theorem dL_size_21 : decode cL_size 21 = .ok (.iconst 0, 1) := by decide +kernel
theorem dL_size_22 : decode cL_size 22 = .ok (.ireturn, 1) := by decide +kernel
theorem dL_set_0 : decode cL_set 0 = .ok (.aload_n 3, 1) := by decide +kernel
theorem dL_set_1 : decode cL_set 1 = .ok (.iconst 0, 1) := by decide +kernel
theorem dL_set_2 : decode cL_set 2 = .ok (.aload_n 0, 1) := by decide +kernel
theorem dL_set_3 : decode cL_set 3 = .ok (.iload_n 1, 1) := by decide +kernel
theorem dL_set_4 : decode cL_set 4 = .ok (.iload_n 2, 1) := by decide +kernel
theorem dL_set_5 : decode cL_set 5 = .ok (.invokevirtual 24, 3) := by decide +kernel
theorem dL_set_8 : decode cL_set 8 = .ok (.i2l, 1) := by decide +kernel
theorem dL_set_9 : decode cL_set 9 = .ok (.lastore, 1) := by decide +kernel
theorem dL_set_10 : decode cL_set 10 = .ok (.goto 7, 3) := by decide +kernel
theorem dL_set_13 : decode cL_set 13 = .ok (.astore 4, 2) := by decide +kernel
theorem dL_set_15 : decode cL_set 15 = .ok (.iconst 1, 1) := by decide +kernel
theorem dL_set_16 : decode cL_set 16 = .ok (.ireturn, 1) := by decide +kernel
theorem dL_set_17 : decode cL_set 17 = .ok (.iconst 0, 1) := by decide +kernel
theorem dL_set_18 : decode cL_set 18 = .ok (.ireturn, 1) := by decide +kernel
theorem dL_fan_0 : decode cL_fan 0 = .ok (.aload_n 3, 1) := by decide +kernel
theorem dL_fan_1 : decode cL_fan 1 = .ok (.iconst 0, 1) := by decide +kernel
theorem dL_fan_2 : decode cL_fan 2 = .ok (.aload_n 0, 1) := by decide +kernel
theorem dL_fan_3 : decode cL_fan 3 = .ok (.iload_n 1, 1) := by decide +kernel
theorem dL_fan_4 : decode cL_fan 4 = .ok (.iload_n 2, 1) := by decide +kernel
theorem dL_fan_5 : decode cL_fan 5 = .ok (.invokevirtual 27, 3) := by decide +kernel
theorem dL_fan_8 : decode cL_fan 8 = .ok (.i2l, 1) := by decide +kernel
theorem dL_fan_9 : decode cL_fan 9 = .ok (.lastore, 1) := by decide +kernel
theorem dL_fan_10 : decode cL_fan 10 = .ok (.goto 11, 3) := by decide +kernel
theorem dL_fan_13 : decode cL_fan 13 = .ok (.astore 4, 2) := by decide +kernel
theorem dL_fan_15 : decode cL_fan 15 = .ok (.iconst 1, 1) := by decide +kernel
theorem dL_fan_16 : decode cL_fan 16 = .ok (.ireturn, 1) := by decide +kernel
theorem dL_fan_17 : decode cL_fan 17 = .ok (.astore 4, 2) := by decide +kernel
theorem dL_fan_19 : decode cL_fan 19 = .ok (.iconst 2, 1) := by decide +kernel
theorem dL_fan_20 : decode cL_fan 20 = .ok (.ireturn, 1) := by decide +kernel
theorem dL_fan_21 : decode cL_fan 21 = .ok (.iconst 0, 1) := by decide +kernel
theorem dL_fan_22 : decode cL_fan 22 = .ok (.ireturn, 1) := by decide +kernel
theorem dL_flow_0 : decode cL_flow 0 = .ok (.aload_n 2, 1) := by decide +kernel
theorem dL_flow_1 : decode cL_flow 1 = .ok (.iconst 0, 1) := by decide +kernel
theorem dL_flow_2 : decode cL_flow 2 = .ok (.aload_n 0, 1) := by decide +kernel
theorem dL_flow_3 : decode cL_flow 3 = .ok (.iload_n 1, 1) := by decide +kernel
theorem dL_flow_4 : decode cL_flow 4 = .ok (.invokevirtual 30, 3) := by decide +kernel
theorem dL_flow_7 : decode cL_flow 7 = .ok (.i2l, 1) := by decide +kernel
theorem dL_flow_8 : decode cL_flow 8 = .ok (.lastore, 1) := by decide +kernel
theorem dL_flow_9 : decode cL_flow 9 = .ok (.goto 6, 3) := by decide +kernel
theorem dL_flow_12 : decode cL_flow 12 = .ok (.astore_n 3, 1) := by decide +kernel
theorem dL_flow_13 : decode cL_flow 13 = .ok (.iconst 1, 1) := by decide +kernel
theorem dL_flow_14 : decode cL_flow 14 = .ok (.ireturn, 1) := by decide +kernel
theorem dL_flow_15 : decode cL_flow 15 = .ok (.iconst 0, 1) := by decide +kernel
theorem dL_flow_16 : decode cL_flow 16 = .ok (.ireturn, 1) := by decide +kernel
theorem dL_told_0 : decode cL_told 0 = .ok (.aload 4, 2) := by decide +kernel
theorem dL_told_2 : decode cL_told 2 = .ok (.iconst 0, 1) := by decide +kernel
theorem dL_told_3 : decode cL_told 3 = .ok (.aload_n 0, 1) := by decide +kernel
theorem dL_told_4 : decode cL_told 4 = .ok (.iload_n 1, 1) := by decide +kernel
theorem dL_told_5 : decode cL_told 5 = .ok (.iload_n 2, 1) := by decide +kernel
theorem dL_told_6 : decode cL_told 6 = .ok (.iload_n 3, 1) := by decide +kernel
theorem dL_told_7 : decode cL_told 7 = .ok (.invokevirtual 34, 3) := by decide +kernel
theorem dL_told_10 : decode cL_told 10 = .ok (.i2l, 1) := by decide +kernel
theorem dL_told_11 : decode cL_told 11 = .ok (.lastore, 1) := by decide +kernel
theorem dL_told_12 : decode cL_told 12 = .ok (.goto 7, 3) := by decide +kernel
theorem dL_told_15 : decode cL_told 15 = .ok (.astore 5, 2) := by decide +kernel
theorem dL_told_17 : decode cL_told 17 = .ok (.iconst 1, 1) := by decide +kernel
theorem dL_told_18 : decode cL_told 18 = .ok (.ireturn, 1) := by decide +kernel
theorem dL_told_19 : decode cL_told 19 = .ok (.iconst 0, 1) := by decide +kernel
theorem dL_told_20 : decode cL_told 20 = .ok (.ireturn, 1) := by decide +kernel
theorem dL_best_0 : decode cL_best 0 = .ok (.aload_n 2, 1) := by decide +kernel
theorem dL_best_1 : decode cL_best 1 = .ok (.iconst 0, 1) := by decide +kernel
theorem dL_best_2 : decode cL_best 2 = .ok (.aload_n 0, 1) := by decide +kernel
theorem dL_best_3 : decode cL_best 3 = .ok (.iload_n 1, 1) := by decide +kernel
theorem dL_best_4 : decode cL_best 4 = .ok (.invokevirtual 37, 3) := by decide +kernel
theorem dL_best_7 : decode cL_best 7 = .ok (.i2l, 1) := by decide +kernel
theorem dL_best_8 : decode cL_best 8 = .ok (.lastore, 1) := by decide +kernel
theorem dL_best_9 : decode cL_best 9 = .ok (.goto 6, 3) := by decide +kernel
theorem dL_best_12 : decode cL_best 12 = .ok (.astore_n 3, 1) := by decide +kernel
theorem dL_best_13 : decode cL_best 13 = .ok (.iconst 1, 1) := by decide +kernel
theorem dL_best_14 : decode cL_best 14 = .ok (.ireturn, 1) := by decide +kernel
theorem dL_best_15 : decode cL_best 15 = .ok (.iconst 0, 1) := by decide +kernel
theorem dL_best_16 : decode cL_best 16 = .ok (.ireturn, 1) := by decide +kernel
theorem dL_chosen_0 : decode cL_chosen 0 = .ok (.aload_n 2, 1) := by decide +kernel
theorem dL_chosen_1 : decode cL_chosen 1 = .ok (.iconst 0, 1) := by decide +kernel
theorem dL_chosen_2 : decode cL_chosen 2 = .ok (.aload_n 0, 1) := by decide +kernel
theorem dL_chosen_3 : decode cL_chosen 3 = .ok (.iload_n 1, 1) := by decide +kernel
theorem dL_chosen_4 : decode cL_chosen 4 = .ok (.invokevirtual 40, 3) := by decide +kernel
theorem dL_chosen_7 : decode cL_chosen 7 = .ok (.i2l, 1) := by decide +kernel
theorem dL_chosen_8 : decode cL_chosen 8 = .ok (.lastore, 1) := by decide +kernel
theorem dL_chosen_9 : decode cL_chosen 9 = .ok (.goto 6, 3) := by decide +kernel
theorem dL_chosen_12 : decode cL_chosen 12 = .ok (.astore_n 3, 1) := by decide +kernel
theorem dL_chosen_13 : decode cL_chosen 13 = .ok (.iconst 1, 1) := by decide +kernel
theorem dL_chosen_14 : decode cL_chosen 14 = .ok (.ireturn, 1) := by decide +kernel
theorem dL_chosen_15 : decode cL_chosen 15 = .ok (.iconst 0, 1) := by decide +kernel
theorem dL_chosen_16 : decode cL_chosen 16 = .ok (.ireturn, 1) := by decide +kernel
theorem dL_pressure_0 : decode cL_pressure 0 = .ok (.aload_n 2, 1) := by decide +kernel
theorem dL_pressure_1 : decode cL_pressure 1 = .ok (.iconst 0, 1) := by decide +kernel
theorem dL_pressure_2 : decode cL_pressure 2 = .ok (.aload_n 0, 1) := by decide +kernel
theorem dL_pressure_3 : decode cL_pressure 3 = .ok (.iload_n 1, 1) := by decide +kernel
theorem dL_pressure_4 : decode cL_pressure 4 = .ok (.invokevirtual 43, 3) := by decide +kernel
theorem dL_pressure_7 : decode cL_pressure 7 = .ok (.i2l, 1) := by decide +kernel
theorem dL_pressure_8 : decode cL_pressure 8 = .ok (.lastore, 1) := by decide +kernel
theorem dL_pressure_9 : decode cL_pressure 9 = .ok (.goto 6, 3) := by decide +kernel
theorem dL_pressure_12 : decode cL_pressure 12 = .ok (.astore_n 3, 1) := by decide +kernel
theorem dL_pressure_13 : decode cL_pressure 13 = .ok (.iconst 1, 1) := by decide +kernel
theorem dL_pressure_14 : decode cL_pressure 14 = .ok (.ireturn, 1) := by decide +kernel
theorem dL_pressure_15 : decode cL_pressure 15 = .ok (.iconst 0, 1) := by decide +kernel
theorem dL_pressure_16 : decode cL_pressure 16 = .ok (.ireturn, 1) := by decide +kernel
theorem dL_damper_0 : decode cL_damper 0 = .ok (.aload_n 2, 1) := by decide +kernel
theorem dL_damper_1 : decode cL_damper 1 = .ok (.iconst 0, 1) := by decide +kernel
theorem dL_damper_2 : decode cL_damper 2 = .ok (.aload_n 0, 1) := by decide +kernel
theorem dL_damper_3 : decode cL_damper 3 = .ok (.iload_n 1, 1) := by decide +kernel
theorem dL_damper_4 : decode cL_damper 4 = .ok (.invokevirtual 46, 3) := by decide +kernel
theorem dL_damper_7 : decode cL_damper 7 = .ok (.i2l, 1) := by decide +kernel
theorem dL_damper_8 : decode cL_damper 8 = .ok (.lastore, 1) := by decide +kernel
theorem dL_damper_9 : decode cL_damper 9 = .ok (.goto 6, 3) := by decide +kernel
theorem dL_damper_12 : decode cL_damper 12 = .ok (.astore_n 3, 1) := by decide +kernel
theorem dL_damper_13 : decode cL_damper 13 = .ok (.iconst 1, 1) := by decide +kernel
theorem dL_damper_14 : decode cL_damper 14 = .ok (.ireturn, 1) := by decide +kernel
theorem dL_damper_15 : decode cL_damper 15 = .ok (.iconst 0, 1) := by decide +kernel
theorem dL_damper_16 : decode cL_damper 16 = .ok (.ireturn, 1) := by decide +kernel
theorem dL_least_0 : decode cL_least 0 = .ok (.aload_n 2, 1) := by decide +kernel
theorem dL_least_1 : decode cL_least 1 = .ok (.iconst 0, 1) := by decide +kernel
theorem dL_least_2 : decode cL_least 2 = .ok (.aload_n 0, 1) := by decide +kernel
theorem dL_least_3 : decode cL_least 3 = .ok (.iload_n 1, 1) := by decide +kernel
theorem dL_least_4 : decode cL_least 4 = .ok (.invokevirtual 49, 3) := by decide +kernel
theorem dL_least_7 : decode cL_least 7 = .ok (.i2l, 1) := by decide +kernel
theorem dL_least_8 : decode cL_least 8 = .ok (.lastore, 1) := by decide +kernel
theorem dL_least_9 : decode cL_least 9 = .ok (.goto 6, 3) := by decide +kernel
theorem dL_least_12 : decode cL_least 12 = .ok (.astore_n 3, 1) := by decide +kernel
theorem dL_least_13 : decode cL_least 13 = .ok (.iconst 1, 1) := by decide +kernel
theorem dL_least_14 : decode cL_least 14 = .ok (.ireturn, 1) := by decide +kernel
theorem dL_least_15 : decode cL_least 15 = .ok (.iconst 0, 1) := by decide +kernel
theorem dL_least_16 : decode cL_least 16 = .ok (.ireturn, 1) := by decide +kernel
