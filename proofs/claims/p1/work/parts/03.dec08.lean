theorem d_KitRunner_packedText_16 : decode prog_1_method_18_code 16 = .ok (.aload_n 0, 1) := by decide +kernel
theorem d_KitRunner_packedText_17 : decode prog_1_method_18_code 17 = .ok (.iload_n 3, 1) := by decide +kernel
theorem d_KitRunner_packedText_18 : decode prog_1_method_18_code 18 = .ok (.invokevirtual 191, 3) := by decide +kernel
theorem d_KitRunner_packedText_21 : decode prog_1_method_18_code 21 = .ok (.i2l, 1) := by decide +kernel
theorem d_KitRunner_packedText_22 : decode prog_1_method_18_code 22 = .ok (.lor, 1) := by decide +kernel
theorem d_KitRunner_packedText_23 : decode prog_1_method_18_code 23 = .ok (.lstore_n 1, 1) := by decide +kernel
theorem d_KitRunner_packedText_24 : decode prog_1_method_18_code 24 = .ok (.iinc 3 1, 3) := by decide +kernel
theorem d_KitRunner_packedText_27 : decode prog_1_method_18_code 27 = .ok (.goto (-23), 3) := by decide +kernel
theorem d_KitRunner_withoutZeroBytes_0 : decode prog_1_method_17_code 0 = .ok (.lconst 0, 1) := by decide +kernel
theorem d_KitRunner_withoutZeroBytes_1 : decode prog_1_method_17_code 1 = .ok (.lstore_n 2, 1) := by decide +kernel
theorem d_KitRunner_withoutZeroBytes_2 : decode prog_1_method_17_code 2 = .ok (.bipush 56, 2) := by decide +kernel
theorem d_KitRunner_withoutZeroBytes_4 : decode prog_1_method_17_code 4 = .ok (.istore 4, 2) := by decide +kernel
theorem d_KitRunner_withoutZeroBytes_6 : decode prog_1_method_17_code 6 = .ok (.iload 4, 2) := by decide +kernel
theorem d_KitRunner_withoutZeroBytes_8 : decode prog_1_method_17_code 8 = .ok (.ifCond .lt 34, 3) := by decide +kernel
theorem d_KitRunner_withoutZeroBytes_42 : decode prog_1_method_17_code 42 = .ok (.lload_n 2, 1) := by decide +kernel
theorem d_KitRunner_withoutZeroBytes_43 : decode prog_1_method_17_code 43 = .ok (.lreturn, 1) := by decide +kernel
theorem d_KitRunner_withoutZeroBytes_11 : decode prog_1_method_17_code 11 = .ok (.lload_n 0, 1) := by decide +kernel
theorem d_KitRunner_withoutZeroBytes_12 : decode prog_1_method_17_code 12 = .ok (.iload 4, 2) := by decide +kernel
theorem d_KitRunner_withoutZeroBytes_14 : decode prog_1_method_17_code 14 = .ok (.lushr, 1) := by decide +kernel
theorem d_KitRunner_withoutZeroBytes_15 : decode prog_1_method_17_code 15 = .ok (.ldc2_w 186, 3) := by decide +kernel
theorem d_KitRunner_withoutZeroBytes_18 : decode prog_1_method_17_code 18 = .ok (.land, 1) := by decide +kernel
theorem d_KitRunner_withoutZeroBytes_19 : decode prog_1_method_17_code 19 = .ok (.lstore 5, 2) := by decide +kernel
theorem d_KitRunner_withoutZeroBytes_21 : decode prog_1_method_17_code 21 = .ok (.lload 5, 2) := by decide +kernel
theorem d_KitRunner_withoutZeroBytes_23 : decode prog_1_method_17_code 23 = .ok (.lconst 0, 1) := by decide +kernel
theorem d_KitRunner_withoutZeroBytes_24 : decode prog_1_method_17_code 24 = .ok (.lcmp, 1) := by decide +kernel
theorem d_KitRunner_withoutZeroBytes_25 : decode prog_1_method_17_code 25 = .ok (.ifCond .eq 11, 3) := by decide +kernel
theorem d_KitRunner_withoutZeroBytes_36 : decode prog_1_method_17_code 36 = .ok (.iinc 4 (-8), 3) := by decide +kernel
theorem d_KitRunner_withoutZeroBytes_39 : decode prog_1_method_17_code 39 = .ok (.goto (-33), 3) := by decide +kernel
theorem d_KitRunner_withoutZeroBytes_28 : decode prog_1_method_17_code 28 = .ok (.lload_n 2, 1) := by decide +kernel
theorem d_KitRunner_withoutZeroBytes_29 : decode prog_1_method_17_code 29 = .ok (.bipush 8, 2) := by decide +kernel
theorem d_KitRunner_withoutZeroBytes_31 : decode prog_1_method_17_code 31 = .ok (.lshl, 1) := by decide +kernel
theorem d_KitRunner_withoutZeroBytes_32 : decode prog_1_method_17_code 32 = .ok (.lload 5, 2) := by decide +kernel
theorem d_KitRunner_withoutZeroBytes_34 : decode prog_1_method_17_code 34 = .ok (.lor, 1) := by decide +kernel
theorem d_KitRunner_withoutZeroBytes_35 : decode prog_1_method_17_code 35 = .ok (.lstore_n 2, 1) := by decide +kernel
theorem d_KitRunner_find_0 : decode prog_1_method_6_code 0 = .ok (.lload_n 1, 1) := by decide +kernel
theorem d_KitRunner_find_1 : decode prog_1_method_6_code 1 = .ok (.invokestatic 91, 3) := by decide +kernel
theorem d_KitRunner_find_4 : decode prog_1_method_6_code 4 = .ok (.lstore_n 3, 1) := by decide +kernel
theorem d_KitRunner_find_5 : decode prog_1_method_6_code 5 = .ok (.iconst 0, 1) := by decide +kernel
theorem d_KitRunner_find_6 : decode prog_1_method_6_code 6 = .ok (.istore 5, 2) := by decide +kernel
theorem d_KitRunner_find_8 : decode prog_1_method_6_code 8 = .ok (.iload 5, 2) := by decide +kernel
theorem d_KitRunner_find_10 : decode prog_1_method_6_code 10 = .ok (.bipush 16, 2) := by decide +kernel
theorem d_KitRunner_find_12 : decode prog_1_method_6_code 12 = .ok (.if_icmp .ge 25, 3) := by decide +kernel
theorem d_KitRunner_find_37 : decode prog_1_method_6_code 37 = .ok (.iconst (-1), 1) := by decide +kernel
theorem d_KitRunner_find_38 : decode prog_1_method_6_code 38 = .ok (.ireturn, 1) := by decide +kernel
theorem d_KitRunner_find_15 : decode prog_1_method_6_code 15 = .ok (.iload 5, 2) := by decide +kernel
theorem d_KitRunner_find_17 : decode prog_1_method_6_code 17 = .ok (.invokestatic 95, 3) := by decide +kernel
theorem d_KitRunner_find_20 : decode prog_1_method_6_code 20 = .ok (.invokestatic 101, 3) := by decide +kernel
theorem d_KitRunner_find_23 : decode prog_1_method_6_code 23 = .ok (.lload_n 3, 1) := by decide +kernel
theorem d_KitRunner_find_24 : decode prog_1_method_6_code 24 = .ok (.lcmp, 1) := by decide +kernel
theorem d_KitRunner_find_25 : decode prog_1_method_6_code 25 = .ok (.ifCond .ne 6, 3) := by decide +kernel
theorem d_KitRunner_find_31 : decode prog_1_method_6_code 31 = .ok (.iinc 5 1, 3) := by decide +kernel
theorem d_KitRunner_find_34 : decode prog_1_method_6_code 34 = .ok (.goto (-26), 3) := by decide +kernel
theorem d_KitRunner_find_28 : decode prog_1_method_6_code 28 = .ok (.iload 5, 2) := by decide +kernel
theorem d_KitRunner_find_30 : decode prog_1_method_6_code 30 = .ok (.ireturn, 1) := by decide +kernel
theorem d_K_Report_putText_0 : decode prog_7_method_6_code 0 = .ok (.iconst 0, 1) := by decide +kernel
theorem d_K_Report_putText_1 : decode prog_7_method_6_code 1 = .ok (.istore_n 2, 1) := by decide +kernel
theorem d_K_Report_putText_2 : decode prog_7_method_6_code 2 = .ok (.iload_n 2, 1) := by decide +kernel
theorem d_K_Report_putText_3 : decode prog_7_method_6_code 3 = .ok (.aload_n 1, 1) := by decide +kernel
theorem d_K_Report_putText_4 : decode prog_7_method_6_code 4 = .ok (.invokevirtual 19, 3) := by decide +kernel
theorem d_K_Report_putText_7 : decode prog_7_method_6_code 7 = .ok (.if_icmp .ge 18, 3) := by decide +kernel
theorem d_K_Report_putText_25 : decode prog_7_method_6_code 25 = .ok (.return_, 1) := by decide +kernel
theorem d_K_Report_putText_10 : decode prog_7_method_6_code 10 = .ok (.aload_n 0, 1) := by decide +kernel
theorem d_K_Report_putText_11 : decode prog_7_method_6_code 11 = .ok (.aload_n 1, 1) := by decide +kernel
theorem d_K_Report_putText_12 : decode prog_7_method_6_code 12 = .ok (.iload_n 2, 1) := by decide +kernel
theorem d_K_Report_putText_13 : decode prog_7_method_6_code 13 = .ok (.invokevirtual 24, 3) := by decide +kernel
theorem d_K_Report_putText_16 : decode prog_7_method_6_code 16 = .ok (.invokevirtual 28, 3) := by decide +kernel
theorem d_K_Report_putText_19 : decode prog_7_method_6_code 19 = .ok (.iinc 2 1, 3) := by decide +kernel
theorem d_K_Report_putText_22 : decode prog_7_method_6_code 22 = .ok (.goto (-20), 3) := by decide +kernel
theorem d_K_Report_putNumber_0 : decode prog_7_method_7_code 0 = .ok (.bipush 100, 2) := by decide +kernel
theorem d_K_Report_putNumber_2 : decode prog_7_method_7_code 2 = .ok (.istore_n 2, 1) := by decide +kernel
theorem d_K_Report_putNumber_3 : decode prog_7_method_7_code 3 = .ok (.iload_n 2, 1) := by decide +kernel
theorem d_K_Report_putNumber_4 : decode prog_7_method_7_code 4 = .ok (.iconst 1, 1) := by decide +kernel
theorem d_K_Report_putNumber_5 : decode prog_7_method_7_code 5 = .ok (.if_icmp .lt 35, 3) := by decide +kernel
theorem d_K_Report_putNumber_8 : decode prog_7_method_7_code 8 = .ok (.iload_n 1, 1) := by decide +kernel
theorem d_K_Report_putNumber_9 : decode prog_7_method_7_code 9 = .ok (.iload_n 2, 1) := by decide +kernel
theorem d_K_Report_putNumber_10 : decode prog_7_method_7_code 10 = .ok (.if_icmp .ge 8, 3) := by decide +kernel
theorem d_K_Report_putNumber_18 : decode prog_7_method_7_code 18 = .ok (.aload_n 0, 1) := by decide +kernel
theorem d_K_Report_putNumber_19 : decode prog_7_method_7_code 19 = .ok (.bipush 48, 2) := by decide +kernel
theorem d_K_Report_putNumber_21 : decode prog_7_method_7_code 21 = .ok (.iload_n 1, 1) := by decide +kernel
theorem d_K_Report_putNumber_22 : decode prog_7_method_7_code 22 = .ok (.iload_n 2, 1) := by decide +kernel
theorem d_K_Report_putNumber_23 : decode prog_7_method_7_code 23 = .ok (.idiv, 1) := by decide +kernel
theorem d_K_Report_putNumber_24 : decode prog_7_method_7_code 24 = .ok (.bipush 10, 2) := by decide +kernel
theorem d_K_Report_putNumber_26 : decode prog_7_method_7_code 26 = .ok (.irem, 1) := by decide +kernel
theorem d_K_Report_putNumber_27 : decode prog_7_method_7_code 27 = .ok (.iadd, 1) := by decide +kernel
theorem d_K_Report_putNumber_28 : decode prog_7_method_7_code 28 = .ok (.i2c, 1) := by decide +kernel
theorem d_K_Report_putNumber_29 : decode prog_7_method_7_code 29 = .ok (.invokevirtual 28, 3) := by decide +kernel
theorem d_K_Report_putNumber_32 : decode prog_7_method_7_code 32 = .ok (.iload_n 2, 1) := by decide +kernel
theorem d_K_Report_putNumber_33 : decode prog_7_method_7_code 33 = .ok (.bipush 10, 2) := by decide +kernel
theorem d_K_Report_putNumber_35 : decode prog_7_method_7_code 35 = .ok (.idiv, 1) := by decide +kernel
theorem d_K_Report_putNumber_36 : decode prog_7_method_7_code 36 = .ok (.istore_n 2, 1) := by decide +kernel
theorem d_K_Report_putNumber_37 : decode prog_7_method_7_code 37 = .ok (.goto (-34), 3) := by decide +kernel
theorem d_K_Report_putNumber_40 : decode prog_7_method_7_code 40 = .ok (.return_, 1) := by decide +kernel
theorem d_K_Report_putNumber_13 : decode prog_7_method_7_code 13 = .ok (.iload_n 2, 1) := by decide +kernel
theorem d_K_Report_putNumber_14 : decode prog_7_method_7_code 14 = .ok (.iconst 1, 1) := by decide +kernel
theorem d_K_Report_putNumber_15 : decode prog_7_method_7_code 15 = .ok (.if_icmp .ne 17, 3) := by decide +kernel
theorem d_KitRunner_ledger_0 : decode prog_1_method_11_code 0 = .ok (.iload_n 1, 1) := by decide +kernel
theorem d_KitRunner_ledger_1 : decode prog_1_method_11_code 1 = .ok (.invokestatic 66, 3) := by decide +kernel
theorem d_KitRunner_ledger_4 : decode prog_1_method_11_code 4 = .ok (.ifCond .eq 14, 3) := by decide +kernel
theorem d_KitRunner_ledger_18 : decode prog_1_method_11_code 18 = .ok (.iconst (-1), 1) := by decide +kernel
theorem d_KitRunner_ledger_19 : decode prog_1_method_11_code 19 = .ok (.ireturn, 1) := by decide +kernel
theorem d_KitRunner_ledger_7 : decode prog_1_method_11_code 7 = .ok (.aload_n 0, 1) := by decide +kernel
theorem d_KitRunner_ledger_8 : decode prog_1_method_11_code 8 = .ok (.getfield 33, 3) := by decide +kernel
theorem d_KitRunner_ledger_11 : decode prog_1_method_11_code 11 = .ok (.iload_n 1, 1) := by decide +kernel
theorem d_KitRunner_ledger_12 : decode prog_1_method_11_code 12 = .ok (.invokevirtual 165, 3) := by decide +kernel
theorem d_KitRunner_ledger_15 : decode prog_1_method_11_code 15 = .ok (.goto 4, 3) := by decide +kernel
theorem d_KitRunner_failure_0 : decode prog_1_method_9_code 0 = .ok (.iload_n 1, 1) := by decide +kernel
theorem d_KitRunner_failure_1 : decode prog_1_method_9_code 1 = .ok (.ifCond .lt 14, 3) := by decide +kernel
theorem d_KitRunner_failure_15 : decode prog_1_method_9_code 15 = .ok (.ldc2_w 105, 3) := by decide +kernel
theorem d_KitRunner_failure_18 : decode prog_1_method_9_code 18 = .ok (.lreturn, 1) := by decide +kernel
theorem d_KitRunner_failure_4 : decode prog_1_method_9_code 4 = .ok (.iload_n 1, 1) := by decide +kernel
theorem d_KitRunner_failure_5 : decode prog_1_method_9_code 5 = .ok (.aload_n 0, 1) := by decide +kernel
theorem d_KitRunner_failure_6 : decode prog_1_method_9_code 6 = .ok (.getfield 40, 3) := by decide +kernel
theorem d_KitRunner_failure_9 : decode prog_1_method_9_code 9 = .ok (.invokevirtual 131, 3) := by decide +kernel
theorem d_KitRunner_failure_12 : decode prog_1_method_9_code 12 = .ok (.if_icmp .lt 7, 3) := by decide +kernel
theorem d_KitRunner_failure_19 : decode prog_1_method_9_code 19 = .ok (.iload_n 2, 1) := by decide +kernel
theorem d_KitRunner_failure_20 : decode prog_1_method_9_code 20 = .ok (.tableswitch 92 0 4 #[36, 46, 60, 74, 83], 36) := by decide +kernel
theorem d_KitRunner_failure_56 : decode prog_1_method_9_code 56 = .ok (.aload_n 0, 1) := by decide +kernel
theorem d_KitRunner_failure_57 : decode prog_1_method_9_code 57 = .ok (.getfield 40, 3) := by decide +kernel
theorem d_KitRunner_failure_60 : decode prog_1_method_9_code 60 = .ok (.iload_n 1, 1) := by decide +kernel
theorem d_KitRunner_failure_61 : decode prog_1_method_9_code 61 = .ok (.invokevirtual 132, 3) := by decide +kernel
theorem d_KitRunner_failure_64 : decode prog_1_method_9_code 64 = .ok (.i2l, 1) := by decide +kernel
theorem d_KitRunner_failure_65 : decode prog_1_method_9_code 65 = .ok (.lreturn, 1) := by decide +kernel
theorem d_KitRunner_failure_66 : decode prog_1_method_9_code 66 = .ok (.getstatic 135, 3) := by decide +kernel
theorem d_KitRunner_failure_69 : decode prog_1_method_9_code 69 = .ok (.aload_n 0, 1) := by decide +kernel
theorem d_KitRunner_failure_70 : decode prog_1_method_9_code 70 = .ok (.getfield 40, 3) := by decide +kernel
theorem d_KitRunner_failure_73 : decode prog_1_method_9_code 73 = .ok (.iload_n 1, 1) := by decide +kernel
theorem d_KitRunner_failure_74 : decode prog_1_method_9_code 74 = .ok (.invokevirtual 139, 3) := by decide +kernel
theorem d_KitRunner_failure_77 : decode prog_1_method_9_code 77 = .ok (.iaload, 1) := by decide +kernel
theorem d_KitRunner_failure_78 : decode prog_1_method_9_code 78 = .ok (.i2l, 1) := by decide +kernel
theorem d_KitRunner_failure_79 : decode prog_1_method_9_code 79 = .ok (.lreturn, 1) := by decide +kernel
theorem d_KitRunner_failure_80 : decode prog_1_method_9_code 80 = .ok (.getstatic 135, 3) := by decide +kernel
theorem d_KitRunner_failure_83 : decode prog_1_method_9_code 83 = .ok (.aload_n 0, 1) := by decide +kernel
theorem d_KitRunner_failure_84 : decode prog_1_method_9_code 84 = .ok (.getfield 40, 3) := by decide +kernel
theorem d_KitRunner_failure_87 : decode prog_1_method_9_code 87 = .ok (.iload_n 1, 1) := by decide +kernel
theorem d_KitRunner_failure_88 : decode prog_1_method_9_code 88 = .ok (.invokevirtual 142, 3) := by decide +kernel
theorem d_KitRunner_failure_91 : decode prog_1_method_9_code 91 = .ok (.iaload, 1) := by decide +kernel
theorem d_KitRunner_failure_92 : decode prog_1_method_9_code 92 = .ok (.i2l, 1) := by decide +kernel
theorem d_KitRunner_failure_93 : decode prog_1_method_9_code 93 = .ok (.lreturn, 1) := by decide +kernel
theorem d_KitRunner_failure_94 : decode prog_1_method_9_code 94 = .ok (.aload_n 0, 1) := by decide +kernel
theorem d_KitRunner_failure_95 : decode prog_1_method_9_code 95 = .ok (.getfield 40, 3) := by decide +kernel
theorem d_KitRunner_failure_98 : decode prog_1_method_9_code 98 = .ok (.iload_n 1, 1) := by decide +kernel
theorem d_KitRunner_failure_99 : decode prog_1_method_9_code 99 = .ok (.invokevirtual 145, 3) := by decide +kernel
theorem d_KitRunner_failure_102 : decode prog_1_method_9_code 102 = .ok (.lreturn, 1) := by decide +kernel
theorem d_KitRunner_failure_103 : decode prog_1_method_9_code 103 = .ok (.aload_n 0, 1) := by decide +kernel
theorem d_KitRunner_failure_104 : decode prog_1_method_9_code 104 = .ok (.getfield 40, 3) := by decide +kernel
theorem d_KitRunner_failure_107 : decode prog_1_method_9_code 107 = .ok (.iload_n 1, 1) := by decide +kernel
theorem d_KitRunner_failure_108 : decode prog_1_method_9_code 108 = .ok (.invokevirtual 149, 3) := by decide +kernel
theorem d_KitRunner_failure_111 : decode prog_1_method_9_code 111 = .ok (.lreturn, 1) := by decide +kernel
theorem d_KitRunner_failure_112 : decode prog_1_method_9_code 112 = .ok (.ldc2_w 105, 3) := by decide +kernel
theorem d_KitRunner_failure_115 : decode prog_1_method_9_code 115 = .ok (.lreturn, 1) := by decide +kernel
theorem d_KitRunner_count_0 : decode prog_1_method_13_code 0 = .ok (.iload_n 1, 1) := by decide +kernel
theorem d_KitRunner_count_1 : decode prog_1_method_13_code 1 = .ok (.tableswitch 140 0 9 #[55, 63, 71, 79, 87, 95, 103, 119, 124, 132], 55) := by decide +kernel
theorem d_KitRunner_count_56 : decode prog_1_method_13_code 56 = .ok (.aload_n 0, 1) := by decide +kernel
theorem d_KitRunner_count_57 : decode prog_1_method_13_code 57 = .ok (.getfield 33, 3) := by decide +kernel
theorem d_KitRunner_count_60 : decode prog_1_method_13_code 60 = .ok (.invokevirtual 171, 3) := by decide +kernel
theorem d_KitRunner_count_63 : decode prog_1_method_13_code 63 = .ok (.ireturn, 1) := by decide +kernel
theorem d_KitRunner_count_64 : decode prog_1_method_13_code 64 = .ok (.aload_n 0, 1) := by decide +kernel
theorem d_KitRunner_count_65 : decode prog_1_method_13_code 65 = .ok (.getfield 33, 3) := by decide +kernel
theorem d_KitRunner_count_68 : decode prog_1_method_13_code 68 = .ok (.invokevirtual 128, 3) := by decide +kernel
theorem d_KitRunner_count_71 : decode prog_1_method_13_code 71 = .ok (.ireturn, 1) := by decide +kernel
