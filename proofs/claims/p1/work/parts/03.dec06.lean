theorem d_KitRunner_init_20 : decode prog_1_method_1_code 20 = .ok (.invokespecial 18, 3) := by decide +kernel
theorem d_KitRunner_init_23 : decode prog_1_method_1_code 23 = .ok (.putfield 19, 3) := by decide +kernel
theorem d_KitRunner_init_26 : decode prog_1_method_1_code 26 = .ok (.aload_n 0, 1) := by decide +kernel
theorem d_KitRunner_init_27 : decode prog_1_method_1_code 27 = .ok (.new 23, 3) := by decide +kernel
theorem d_KitRunner_init_30 : decode prog_1_method_1_code 30 = .ok (.dup, 1) := by decide +kernel
theorem d_KitRunner_init_31 : decode prog_1_method_1_code 31 = .ok (.invokespecial 25, 3) := by decide +kernel
theorem d_KitRunner_init_34 : decode prog_1_method_1_code 34 = .ok (.putfield 26, 3) := by decide +kernel
theorem d_KitRunner_init_37 : decode prog_1_method_1_code 37 = .ok (.aload_n 0, 1) := by decide +kernel
theorem d_KitRunner_init_38 : decode prog_1_method_1_code 38 = .ok (.new 30, 3) := by decide +kernel
theorem d_KitRunner_init_41 : decode prog_1_method_1_code 41 = .ok (.dup, 1) := by decide +kernel
theorem d_KitRunner_init_42 : decode prog_1_method_1_code 42 = .ok (.invokespecial 32, 3) := by decide +kernel
theorem d_KitRunner_init_45 : decode prog_1_method_1_code 45 = .ok (.putfield 33, 3) := by decide +kernel
theorem d_KitRunner_init_48 : decode prog_1_method_1_code 48 = .ok (.aload_n 0, 1) := by decide +kernel
theorem d_KitRunner_init_49 : decode prog_1_method_1_code 49 = .ok (.new 37, 3) := by decide +kernel
theorem d_KitRunner_init_52 : decode prog_1_method_1_code 52 = .ok (.dup, 1) := by decide +kernel
theorem d_KitRunner_init_53 : decode prog_1_method_1_code 53 = .ok (.invokespecial 39, 3) := by decide +kernel
theorem d_KitRunner_init_56 : decode prog_1_method_1_code 56 = .ok (.putfield 40, 3) := by decide +kernel
theorem d_KitRunner_init_59 : decode prog_1_method_1_code 59 = .ok (.aload_n 0, 1) := by decide +kernel
theorem d_KitRunner_init_60 : decode prog_1_method_1_code 60 = .ok (.new 44, 3) := by decide +kernel
theorem d_KitRunner_init_63 : decode prog_1_method_1_code 63 = .ok (.dup, 1) := by decide +kernel
theorem d_KitRunner_init_64 : decode prog_1_method_1_code 64 = .ok (.invokespecial 46, 3) := by decide +kernel
theorem d_KitRunner_init_67 : decode prog_1_method_1_code 67 = .ok (.putfield 47, 3) := by decide +kernel
theorem d_KitRunner_init_70 : decode prog_1_method_1_code 70 = .ok (.aload_n 0, 1) := by decide +kernel
theorem d_KitRunner_init_71 : decode prog_1_method_1_code 71 = .ok (.new 51, 3) := by decide +kernel
theorem d_KitRunner_init_74 : decode prog_1_method_1_code 74 = .ok (.dup, 1) := by decide +kernel
theorem d_KitRunner_init_75 : decode prog_1_method_1_code 75 = .ok (.invokespecial 53, 3) := by decide +kernel
theorem d_KitRunner_init_78 : decode prog_1_method_1_code 78 = .ok (.putfield 54, 3) := by decide +kernel
theorem d_KitRunner_init_81 : decode prog_1_method_1_code 81 = .ok (.aload_n 0, 1) := by decide +kernel
theorem d_KitRunner_init_82 : decode prog_1_method_1_code 82 = .ok (.ldc 58, 2) := by decide +kernel
theorem d_KitRunner_init_84 : decode prog_1_method_1_code 84 = .ok (.putfield 59, 3) := by decide +kernel
theorem d_KitRunner_init_87 : decode prog_1_method_1_code 87 = .ok (.aload_n 0, 1) := by decide +kernel
theorem d_KitRunner_init_88 : decode prog_1_method_1_code 88 = .ok (.iconst 0, 1) := by decide +kernel
theorem d_KitRunner_init_89 : decode prog_1_method_1_code 89 = .ok (.putfield 63, 3) := by decide +kernel
theorem d_KitRunner_init_92 : decode prog_1_method_1_code 92 = .ok (.return_, 1) := by decide +kernel
theorem d_KitRunner_fault_0 : decode prog_1_method_2_code 0 = .ok (.iload_n 1, 1) := by decide +kernel
theorem d_KitRunner_fault_1 : decode prog_1_method_2_code 1 = .ok (.invokestatic 66, 3) := by decide +kernel
theorem d_KitRunner_fault_4 : decode prog_1_method_2_code 4 = .ok (.ifCond .eq 12, 3) := by decide +kernel
theorem d_KitRunner_fault_16 : decode prog_1_method_2_code 16 = .ok (.iconst (-1), 1) := by decide +kernel
theorem d_KitRunner_fault_17 : decode prog_1_method_2_code 17 = .ok (.ireturn, 1) := by decide +kernel
theorem d_KitRunner_fault_7 : decode prog_1_method_2_code 7 = .ok (.iload_n 2, 1) := by decide +kernel
theorem d_KitRunner_fault_8 : decode prog_1_method_2_code 8 = .ok (.ifCond .lt 8, 3) := by decide +kernel
theorem d_KitRunner_fault_11 : decode prog_1_method_2_code 11 = .ok (.iload_n 2, 1) := by decide +kernel
theorem d_KitRunner_fault_12 : decode prog_1_method_2_code 12 = .ok (.iconst 5, 1) := by decide +kernel
theorem d_KitRunner_fault_13 : decode prog_1_method_2_code 13 = .ok (.if_icmp .lt 5, 3) := by decide +kernel
theorem d_KitRunner_fault_18 : decode prog_1_method_2_code 18 = .ok (.aload_n 0, 1) := by decide +kernel
theorem d_KitRunner_fault_19 : decode prog_1_method_2_code 19 = .ok (.getfield 10, 3) := by decide +kernel
theorem d_KitRunner_fault_22 : decode prog_1_method_2_code 22 = .ok (.iload_n 1, 1) := by decide +kernel
theorem d_KitRunner_fault_23 : decode prog_1_method_2_code 23 = .ok (.iload_n 2, 1) := by decide +kernel
theorem d_KitRunner_fault_24 : decode prog_1_method_2_code 24 = .ok (.iload_n 3, 1) := by decide +kernel
theorem d_KitRunner_fault_25 : decode prog_1_method_2_code 25 = .ok (.invokevirtual 70, 3) := by decide +kernel
theorem d_KitRunner_fault_28 : decode prog_1_method_2_code 28 = .ok (.ifCond .eq 13, 3) := by decide +kernel
theorem d_KitRunner_fault_41 : decode prog_1_method_2_code 41 = .ok (.bipush (-2), 2) := by decide +kernel
theorem d_KitRunner_fault_43 : decode prog_1_method_2_code 43 = .ok (.ireturn, 1) := by decide +kernel
theorem d_KitRunner_fault_31 : decode prog_1_method_2_code 31 = .ok (.aload_n 0, 1) := by decide +kernel
theorem d_KitRunner_fault_32 : decode prog_1_method_2_code 32 = .ok (.getfield 10, 3) := by decide +kernel
theorem d_KitRunner_fault_35 : decode prog_1_method_2_code 35 = .ok (.invokevirtual 74, 3) := by decide +kernel
theorem d_KitRunner_fault_38 : decode prog_1_method_2_code 38 = .ok (.goto 5, 3) := by decide +kernel
theorem d_KitRunner_exclude_0 : decode prog_1_method_3_code 0 = .ok (.iload_n 1, 1) := by decide +kernel
theorem d_KitRunner_exclude_1 : decode prog_1_method_3_code 1 = .ok (.invokestatic 66, 3) := by decide +kernel
theorem d_KitRunner_exclude_4 : decode prog_1_method_3_code 4 = .ok (.ifCond .ne 5, 3) := by decide +kernel
theorem d_KitRunner_exclude_9 : decode prog_1_method_3_code 9 = .ok (.aload_n 0, 1) := by decide +kernel
theorem d_KitRunner_exclude_10 : decode prog_1_method_3_code 10 = .ok (.getfield 19, 3) := by decide +kernel
theorem d_KitRunner_exclude_13 : decode prog_1_method_3_code 13 = .ok (.iload_n 1, 1) := by decide +kernel
theorem d_KitRunner_exclude_14 : decode prog_1_method_3_code 14 = .ok (.iload_n 2, 1) := by decide +kernel
theorem d_KitRunner_exclude_15 : decode prog_1_method_3_code 15 = .ok (.invokevirtual 78, 3) := by decide +kernel
theorem d_KitRunner_exclude_18 : decode prog_1_method_3_code 18 = .ok (.ifCond .eq 13, 3) := by decide +kernel
theorem d_KitRunner_exclude_31 : decode prog_1_method_3_code 31 = .ok (.bipush (-2), 2) := by decide +kernel
theorem d_KitRunner_exclude_33 : decode prog_1_method_3_code 33 = .ok (.ireturn, 1) := by decide +kernel
theorem d_KitRunner_exclude_21 : decode prog_1_method_3_code 21 = .ok (.aload_n 0, 1) := by decide +kernel
theorem d_KitRunner_exclude_22 : decode prog_1_method_3_code 22 = .ok (.getfield 19, 3) := by decide +kernel
theorem d_KitRunner_exclude_25 : decode prog_1_method_3_code 25 = .ok (.invokevirtual 82, 3) := by decide +kernel
theorem d_KitRunner_exclude_28 : decode prog_1_method_3_code 28 = .ok (.goto 5, 3) := by decide +kernel
theorem d_KitRunner_exclude_7 : decode prog_1_method_3_code 7 = .ok (.iconst (-1), 1) := by decide +kernel
theorem d_KitRunner_exclude_8 : decode prog_1_method_3_code 8 = .ok (.ireturn, 1) := by decide +kernel
theorem d_KitRunner_clear_0 : decode prog_1_method_4_code 0 = .ok (.iload_n 1, 1) := by decide +kernel
theorem d_KitRunner_clear_1 : decode prog_1_method_4_code 1 = .ok (.ifCond .lt 8, 3) := by decide +kernel
theorem d_KitRunner_clear_9 : decode prog_1_method_4_code 9 = .ok (.iconst (-1), 1) := by decide +kernel
theorem d_KitRunner_clear_10 : decode prog_1_method_4_code 10 = .ok (.ireturn, 1) := by decide +kernel
theorem d_KitRunner_clear_4 : decode prog_1_method_4_code 4 = .ok (.iload_n 1, 1) := by decide +kernel
theorem d_KitRunner_clear_5 : decode prog_1_method_4_code 5 = .ok (.iconst 2, 1) := by decide +kernel
theorem d_KitRunner_clear_6 : decode prog_1_method_4_code 6 = .ok (.if_icmp .le 5, 3) := by decide +kernel
theorem d_KitRunner_clear_11 : decode prog_1_method_4_code 11 = .ok (.iload_n 1, 1) := by decide +kernel
theorem d_KitRunner_clear_12 : decode prog_1_method_4_code 12 = .ok (.iconst 1, 1) := by decide +kernel
theorem d_KitRunner_clear_13 : decode prog_1_method_4_code 13 = .ok (.if_icmp .eq 10, 3) := by decide +kernel
theorem d_KitRunner_clear_23 : decode prog_1_method_4_code 23 = .ok (.iload_n 1, 1) := by decide +kernel
theorem d_KitRunner_clear_24 : decode prog_1_method_4_code 24 = .ok (.ifCond .eq 10, 3) := by decide +kernel
theorem d_KitRunner_clear_34 : decode prog_1_method_4_code 34 = .ok (.iconst 0, 1) := by decide +kernel
theorem d_KitRunner_clear_35 : decode prog_1_method_4_code 35 = .ok (.ireturn, 1) := by decide +kernel
theorem d_KitRunner_clear_27 : decode prog_1_method_4_code 27 = .ok (.aload_n 0, 1) := by decide +kernel
theorem d_KitRunner_clear_28 : decode prog_1_method_4_code 28 = .ok (.getfield 19, 3) := by decide +kernel
theorem d_KitRunner_clear_31 : decode prog_1_method_4_code 31 = .ok (.invokevirtual 88, 3) := by decide +kernel
theorem d_KitRunner_clear_16 : decode prog_1_method_4_code 16 = .ok (.aload_n 0, 1) := by decide +kernel
theorem d_KitRunner_clear_17 : decode prog_1_method_4_code 17 = .ok (.getfield 10, 3) := by decide +kernel
theorem d_KitRunner_clear_20 : decode prog_1_method_4_code 20 = .ok (.invokevirtual 85, 3) := by decide +kernel
theorem d_KitRunner_enable_0 : decode prog_1_method_5_code 0 = .ok (.iload_n 1, 1) := by decide +kernel
theorem d_KitRunner_enable_1 : decode prog_1_method_5_code 1 = .ok (.ifCond .lt 9, 3) := by decide +kernel
theorem d_KitRunner_enable_10 : decode prog_1_method_5_code 10 = .ok (.iconst (-1), 1) := by decide +kernel
theorem d_KitRunner_enable_11 : decode prog_1_method_5_code 11 = .ok (.ireturn, 1) := by decide +kernel
theorem d_KitRunner_enable_4 : decode prog_1_method_5_code 4 = .ok (.iload_n 1, 1) := by decide +kernel
theorem d_KitRunner_enable_5 : decode prog_1_method_5_code 5 = .ok (.ldc 58, 2) := by decide +kernel
theorem d_KitRunner_enable_7 : decode prog_1_method_5_code 7 = .ok (.if_icmp .le 5, 3) := by decide +kernel
theorem d_KitRunner_enable_12 : decode prog_1_method_5_code 12 = .ok (.aload_n 0, 1) := by decide +kernel
theorem d_KitRunner_enable_13 : decode prog_1_method_5_code 13 = .ok (.iload_n 1, 1) := by decide +kernel
theorem d_KitRunner_enable_14 : decode prog_1_method_5_code 14 = .ok (.putfield 59, 3) := by decide +kernel
theorem d_KitRunner_enable_17 : decode prog_1_method_5_code 17 = .ok (.iconst 0, 1) := by decide +kernel
theorem d_KitRunner_enable_18 : decode prog_1_method_5_code 18 = .ok (.ireturn, 1) := by decide +kernel
theorem d_KitRunner_outcome_0 : decode prog_1_method_7_code 0 = .ok (.iload_n 1, 1) := by decide +kernel
theorem d_KitRunner_outcome_1 : decode prog_1_method_7_code 1 = .ok (.invokestatic 66, 3) := by decide +kernel
theorem d_KitRunner_outcome_4 : decode prog_1_method_7_code 4 = .ok (.ifCond .ne 7, 3) := by decide +kernel
theorem d_KitRunner_outcome_11 : decode prog_1_method_7_code 11 = .ok (.iload 4, 2) := by decide +kernel
theorem d_KitRunner_outcome_13 : decode prog_1_method_7_code 13 = .ok (.ifCond .eq 16, 3) := by decide +kernel
theorem d_KitRunner_outcome_29 : decode prog_1_method_7_code 29 = .ok (.iload_n 1, 1) := by decide +kernel
theorem d_KitRunner_outcome_30 : decode prog_1_method_7_code 30 = .ok (.iload_n 2, 1) := by decide +kernel
theorem d_KitRunner_outcome_31 : decode prog_1_method_7_code 31 = .ok (.iload_n 3, 1) := by decide +kernel
theorem d_KitRunner_outcome_32 : decode prog_1_method_7_code 32 = .ok (.invokestatic 111, 3) := by decide +kernel
theorem d_KitRunner_outcome_35 : decode prog_1_method_7_code 35 = .ok (.lreturn, 1) := by decide +kernel
theorem d_KitRunner_outcome_16 : decode prog_1_method_7_code 16 = .ok (.aload_n 0, 1) := by decide +kernel
theorem d_KitRunner_outcome_17 : decode prog_1_method_7_code 17 = .ok (.getfield 10, 3) := by decide +kernel
theorem d_KitRunner_outcome_20 : decode prog_1_method_7_code 20 = .ok (.iload_n 1, 1) := by decide +kernel
theorem d_KitRunner_outcome_21 : decode prog_1_method_7_code 21 = .ok (.iload_n 2, 1) := by decide +kernel
theorem d_KitRunner_outcome_22 : decode prog_1_method_7_code 22 = .ok (.iload_n 3, 1) := by decide +kernel
theorem d_KitRunner_outcome_23 : decode prog_1_method_7_code 23 = .ok (.invokevirtual 107, 3) := by decide +kernel
theorem d_KitRunner_outcome_26 : decode prog_1_method_7_code 26 = .ok (.goto 9, 3) := by decide +kernel
theorem d_KitRunner_outcome_7 : decode prog_1_method_7_code 7 = .ok (.ldc2_w 105, 3) := by decide +kernel
theorem d_KitRunner_outcome_10 : decode prog_1_method_7_code 10 = .ok (.lreturn, 1) := by decide +kernel
theorem d_KitRunner_letter_0 : decode prog_1_method_12_code 0 = .ok (.aload_n 0, 1) := by decide +kernel
theorem d_KitRunner_letter_1 : decode prog_1_method_12_code 1 = .ok (.getfield 47, 3) := by decide +kernel
theorem d_KitRunner_letter_4 : decode prog_1_method_12_code 4 = .ok (.iload_n 1, 1) := by decide +kernel
theorem d_KitRunner_letter_5 : decode prog_1_method_12_code 5 = .ok (.invokevirtual 168, 3) := by decide +kernel
theorem d_KitRunner_letter_8 : decode prog_1_method_12_code 8 = .ok (.ireturn, 1) := by decide +kernel
theorem d_KitRunner_runCase_0 : decode prog_1_method_21_code 0 = .ok (.iload_n 1, 1) := by decide +kernel
theorem d_KitRunner_runCase_1 : decode prog_1_method_21_code 1 = .ok (.getstatic 135, 3) := by decide +kernel
theorem d_KitRunner_runCase_4 : decode prog_1_method_21_code 4 = .ok (.iload_n 2, 1) := by decide +kernel
theorem d_KitRunner_runCase_5 : decode prog_1_method_21_code 5 = .ok (.iaload, 1) := by decide +kernel
theorem d_KitRunner_runCase_6 : decode prog_1_method_21_code 6 = .ok (.getstatic 135, 3) := by decide +kernel
theorem d_KitRunner_runCase_9 : decode prog_1_method_21_code 9 = .ok (.iload_n 3, 1) := by decide +kernel
theorem d_KitRunner_runCase_10 : decode prog_1_method_21_code 10 = .ok (.iaload, 1) := by decide +kernel
theorem d_KitRunner_runCase_11 : decode prog_1_method_21_code 11 = .ok (.invokestatic 111, 3) := by decide +kernel
theorem d_KitRunner_runCase_14 : decode prog_1_method_21_code 14 = .ok (.lstore 4, 2) := by decide +kernel
theorem d_KitRunner_runCase_16 : decode prog_1_method_21_code 16 = .ok (.aload_n 0, 1) := by decide +kernel
theorem d_KitRunner_runCase_17 : decode prog_1_method_21_code 17 = .ok (.getfield 10, 3) := by decide +kernel
theorem d_KitRunner_runCase_20 : decode prog_1_method_21_code 20 = .ok (.iload_n 1, 1) := by decide +kernel
theorem d_KitRunner_runCase_21 : decode prog_1_method_21_code 21 = .ok (.getstatic 135, 3) := by decide +kernel
theorem d_KitRunner_runCase_24 : decode prog_1_method_21_code 24 = .ok (.iload_n 2, 1) := by decide +kernel
theorem d_KitRunner_runCase_25 : decode prog_1_method_21_code 25 = .ok (.iaload, 1) := by decide +kernel
theorem d_KitRunner_runCase_26 : decode prog_1_method_21_code 26 = .ok (.getstatic 135, 3) := by decide +kernel
theorem d_KitRunner_runCase_29 : decode prog_1_method_21_code 29 = .ok (.iload_n 3, 1) := by decide +kernel
theorem d_KitRunner_runCase_30 : decode prog_1_method_21_code 30 = .ok (.iaload, 1) := by decide +kernel
theorem d_KitRunner_runCase_31 : decode prog_1_method_21_code 31 = .ok (.invokevirtual 107, 3) := by decide +kernel
theorem d_KitRunner_runCase_34 : decode prog_1_method_21_code 34 = .ok (.lstore 6, 2) := by decide +kernel
theorem d_KitRunner_runCase_36 : decode prog_1_method_21_code 36 = .ok (.aload_n 0, 1) := by decide +kernel
theorem d_KitRunner_runCase_37 : decode prog_1_method_21_code 37 = .ok (.getfield 33, 3) := by decide +kernel
theorem d_KitRunner_runCase_40 : decode prog_1_method_21_code 40 = .ok (.iload_n 1, 1) := by decide +kernel
theorem d_KitRunner_runCase_41 : decode prog_1_method_21_code 41 = .ok (.lload 6, 2) := by decide +kernel
theorem d_KitRunner_runCase_43 : decode prog_1_method_21_code 43 = .ok (.invokevirtual 214, 3) := by decide +kernel
theorem d_KitRunner_runCase_46 : decode prog_1_method_21_code 46 = .ok (.lload 6, 2) := by decide +kernel
theorem d_KitRunner_runCase_48 : decode prog_1_method_21_code 48 = .ok (.lload 4, 2) := by decide +kernel
theorem d_KitRunner_runCase_50 : decode prog_1_method_21_code 50 = .ok (.lcmp, 1) := by decide +kernel
theorem d_KitRunner_runCase_51 : decode prog_1_method_21_code 51 = .ok (.ifCond .eq 25, 3) := by decide +kernel
theorem d_KitRunner_runCase_76 : decode prog_1_method_21_code 76 = .ok (.return_, 1) := by decide +kernel
