theorem d_RM_clear_21 : decode prog_12_method_7_code 21 = .ok (.ifCond .eq 8, 3) := by decide +kernel
theorem d_RM_clear_29 : decode prog_12_method_7_code 29 = .ok (.iconst 0, 1) := by decide +kernel
theorem d_RM_clear_30 : decode prog_12_method_7_code 30 = .ok (.ireturn, 1) := by decide +kernel
theorem d_RM_clear_24 : decode prog_12_method_7_code 24 = .ok (.aload_n 0, 1) := by decide +kernel
theorem d_RM_clear_25 : decode prog_12_method_7_code 25 = .ok (.iconst 0, 1) := by decide +kernel
theorem d_RM_clear_26 : decode prog_12_method_7_code 26 = .ok (.putfield 101, 3) := by decide +kernel
theorem d_RM_clear_15 : decode prog_12_method_7_code 15 = .ok (.aload_n 0, 1) := by decide +kernel
theorem d_RM_clear_16 : decode prog_12_method_7_code 16 = .ok (.iconst 0, 1) := by decide +kernel
theorem d_RM_clear_17 : decode prog_12_method_7_code 17 = .ok (.putfield 98, 3) := by decide +kernel
theorem d_RM_clear_8 : decode prog_12_method_7_code 8 = .ok (.iconst (-1), 1) := by decide +kernel
theorem d_RM_clear_9 : decode prog_12_method_7_code 9 = .ok (.ireturn, 1) := by decide +kernel
theorem d_RM_enable_0 : decode prog_12_method_8_code 0 = .ok (.iload_n 1, 1) := by decide +kernel
theorem d_RM_enable_1 : decode prog_12_method_8_code 1 = .ok (.ifCond .lt 9, 3) := by decide +kernel
theorem d_RM_enable_10 : decode prog_12_method_8_code 10 = .ok (.iconst (-1), 1) := by decide +kernel
theorem d_RM_enable_11 : decode prog_12_method_8_code 11 = .ok (.ireturn, 1) := by decide +kernel
theorem d_RM_enable_4 : decode prog_12_method_8_code 4 = .ok (.iload_n 1, 1) := by decide +kernel
theorem d_RM_enable_5 : decode prog_12_method_8_code 5 = .ok (.ldc 25, 2) := by decide +kernel
theorem d_RM_enable_7 : decode prog_12_method_8_code 7 = .ok (.if_icmp .le 5, 3) := by decide +kernel
theorem d_RM_enable_12 : decode prog_12_method_8_code 12 = .ok (.aload_n 0, 1) := by decide +kernel
theorem d_RM_enable_13 : decode prog_12_method_8_code 13 = .ok (.iload_n 1, 1) := by decide +kernel
theorem d_RM_enable_14 : decode prog_12_method_8_code 14 = .ok (.putfield 26, 3) := by decide +kernel
theorem d_RM_enable_17 : decode prog_12_method_8_code 17 = .ok (.iconst 0, 1) := by decide +kernel
theorem d_RM_enable_18 : decode prog_12_method_8_code 18 = .ok (.ireturn, 1) := by decide +kernel
theorem d_RM_failure_0 : decode prog_12_method_17_code 0 = .ok (.iload_n 1, 1) := by decide +kernel
theorem d_RM_failure_1 : decode prog_12_method_17_code 1 = .ok (.aload_n 0, 1) := by decide +kernel
theorem d_RM_failure_2 : decode prog_12_method_17_code 2 = .ok (.getfield 155, 3) := by decide +kernel
theorem d_RM_failure_5 : decode prog_12_method_17_code 5 = .ok (.bipush 12, 2) := by decide +kernel
theorem d_RM_failure_7 : decode prog_12_method_17_code 7 = .ok (.if_icmp .ge 10, 3) := by decide +kernel
theorem d_RM_failure_10 : decode prog_12_method_17_code 10 = .ok (.aload_n 0, 1) := by decide +kernel
theorem d_RM_failure_11 : decode prog_12_method_17_code 11 = .ok (.getfield 155, 3) := by decide +kernel
theorem d_RM_failure_14 : decode prog_12_method_17_code 14 = .ok (.goto 5, 3) := by decide +kernel
theorem d_RM_failure_19 : decode prog_12_method_17_code 19 = .ok (.invokestatic 94, 3) := by decide +kernel
theorem d_RM_failure_22 : decode prog_12_method_17_code 22 = .ok (.ifCond .eq 11, 3) := by decide +kernel
theorem d_RM_failure_33 : decode prog_12_method_17_code 33 = .ok (.ldc2_w 140, 3) := by decide +kernel
theorem d_RM_failure_36 : decode prog_12_method_17_code 36 = .ok (.lreturn, 1) := by decide +kernel
theorem d_RM_shrink_0 : decode prog_12_method_21_code 0 = .ok (.iload_n 1, 1) := by decide +kernel
theorem d_RM_shrink_1 : decode prog_12_method_21_code 1 = .ok (.aload_n 0, 1) := by decide +kernel
theorem d_RM_shrink_2 : decode prog_12_method_21_code 2 = .ok (.getfield 155, 3) := by decide +kernel
theorem d_RM_shrink_5 : decode prog_12_method_21_code 5 = .ok (.bipush 12, 2) := by decide +kernel
theorem d_RM_shrink_7 : decode prog_12_method_21_code 7 = .ok (.if_icmp .ge 10, 3) := by decide +kernel
theorem d_RM_shrink_10 : decode prog_12_method_21_code 10 = .ok (.aload_n 0, 1) := by decide +kernel
theorem d_RM_shrink_11 : decode prog_12_method_21_code 11 = .ok (.getfield 155, 3) := by decide +kernel
theorem d_RM_shrink_14 : decode prog_12_method_21_code 14 = .ok (.goto 5, 3) := by decide +kernel
theorem d_RM_shrink_19 : decode prog_12_method_21_code 19 = .ok (.invokestatic 94, 3) := by decide +kernel
theorem d_RM_shrink_22 : decode prog_12_method_21_code 22 = .ok (.ifCond .eq 11, 3) := by decide +kernel
theorem d_RM_shrink_33 : decode prog_12_method_21_code 33 = .ok (.ldc2_w 140, 3) := by decide +kernel
theorem d_RM_shrink_36 : decode prog_12_method_21_code 36 = .ok (.lreturn, 1) := by decide +kernel
theorem d_RM_ledger_0 : decode prog_12_method_22_code 0 = .ok (.iload_n 1, 1) := by decide +kernel
theorem d_RM_ledger_1 : decode prog_12_method_22_code 1 = .ok (.bipush 16, 2) := by decide +kernel
theorem d_RM_ledger_3 : decode prog_12_method_22_code 3 = .ok (.invokestatic 94, 3) := by decide +kernel
theorem d_RM_ledger_6 : decode prog_12_method_22_code 6 = .ok (.ifCond .eq 12, 3) := by decide +kernel
theorem d_RM_ledger_18 : decode prog_12_method_22_code 18 = .ok (.iconst (-1), 1) := by decide +kernel
theorem d_RM_ledger_19 : decode prog_12_method_22_code 19 = .ok (.ireturn, 1) := by decide +kernel
theorem d_RM_ledger_9 : decode prog_12_method_22_code 9 = .ok (.aload_n 0, 1) := by decide +kernel
theorem d_RM_ledger_10 : decode prog_12_method_22_code 10 = .ok (.getfield 36, 3) := by decide +kernel
theorem d_RM_ledger_13 : decode prog_12_method_22_code 13 = .ok (.iload_n 1, 1) := by decide +kernel
theorem d_RM_ledger_14 : decode prog_12_method_22_code 14 = .ok (.iaload, 1) := by decide +kernel
theorem d_RM_ledger_15 : decode prog_12_method_22_code 15 = .ok (.goto 4, 3) := by decide +kernel
theorem d_RM_write_0 : decode prog_12_method_25_code 0 = .ok (.iconst 0, 1) := by decide +kernel
theorem d_RM_write_1 : decode prog_12_method_25_code 1 = .ok (.istore_n 1, 1) := by decide +kernel
theorem d_RM_write_2 : decode prog_12_method_25_code 2 = .ok (.aload_n 0, 1) := by decide +kernel
theorem d_RM_write_3 : decode prog_12_method_25_code 3 = .ok (.getfield 169, 3) := by decide +kernel
theorem d_RM_write_6 : decode prog_12_method_25_code 6 = .ok (.ifCond .ne 5, 3) := by decide +kernel
theorem d_RM_write_9 : decode prog_12_method_25_code 9 = .ok (.iconst 0, 1) := by decide +kernel
theorem d_RM_write_10 : decode prog_12_method_25_code 10 = .ok (.ireturn, 1) := by decide +kernel
theorem d_RM_letter_0 : decode prog_12_method_26_code 0 = .ok (.aload_n 0, 1) := by decide +kernel
theorem d_RM_letter_1 : decode prog_12_method_26_code 1 = .ok (.invokevirtual 207, 3) := by decide +kernel
theorem d_RM_letter_4 : decode prog_12_method_26_code 4 = .ok (.istore_n 2, 1) := by decide +kernel
theorem d_RM_letter_5 : decode prog_12_method_26_code 5 = .ok (.iload_n 1, 1) := by decide +kernel
theorem d_RM_letter_6 : decode prog_12_method_26_code 6 = .ok (.iload_n 2, 1) := by decide +kernel
theorem d_RM_letter_7 : decode prog_12_method_26_code 7 = .ok (.invokestatic 94, 3) := by decide +kernel
theorem d_RM_letter_10 : decode prog_12_method_26_code 10 = .ok (.ifCond .eq 12, 3) := by decide +kernel
theorem d_RM_letter_22 : decode prog_12_method_26_code 22 = .ok (.iconst 0, 1) := by decide +kernel
theorem d_RM_letter_23 : decode prog_12_method_26_code 23 = .ok (.ireturn, 1) := by decide +kernel
theorem d_RM_count_0 : decode prog_12_method_27_code 0 = .ok (.iload_n 1, 1) := by decide +kernel
theorem d_RM_count_1 : decode prog_12_method_27_code 1 = .ok (.bipush 10, 2) := by decide +kernel
theorem d_RM_count_3 : decode prog_12_method_27_code 3 = .ok (.invokestatic 94, 3) := by decide +kernel
theorem d_RM_count_6 : decode prog_12_method_27_code 6 = .ok (.ifCond .ne 5, 3) := by decide +kernel
theorem d_RM_count_11 : decode prog_12_method_27_code 11 = .ok (.iconst 0, 1) := by decide +kernel
theorem d_RM_count_12 : decode prog_12_method_27_code 12 = .ok (.istore_n 2, 1) := by decide +kernel
theorem d_RM_count_13 : decode prog_12_method_27_code 13 = .ok (.iconst 0, 1) := by decide +kernel
theorem d_RM_count_14 : decode prog_12_method_27_code 14 = .ok (.istore_n 3, 1) := by decide +kernel
theorem d_RM_count_15 : decode prog_12_method_27_code 15 = .ok (.iload_n 3, 1) := by decide +kernel
theorem d_RM_count_16 : decode prog_12_method_27_code 16 = .ok (.bipush 16, 2) := by decide +kernel
theorem d_RM_count_18 : decode prog_12_method_27_code 18 = .ok (.if_icmp .ge 39, 3) := by decide +kernel
theorem d_RM_count_57 : decode prog_12_method_27_code 57 = .ok (.iload_n 1, 1) := by decide +kernel
theorem d_RM_count_58 : decode prog_12_method_27_code 58 = .ok (.iconst 4, 1) := by decide +kernel
theorem d_RM_count_59 : decode prog_12_method_27_code 59 = .ok (.if_icmp .ge 43, 3) := by decide +kernel
theorem d_RM_count_102 : decode prog_12_method_27_code 102 = .ok (.iload_n 1, 1) := by decide +kernel
theorem d_RM_count_103 : decode prog_12_method_27_code 103 = .ok (.bipush 7, 2) := by decide +kernel
theorem d_RM_count_105 : decode prog_12_method_27_code 105 = .ok (.if_icmp .ge 37, 3) := by decide +kernel
theorem d_RM_count_142 : decode prog_12_method_27_code 142 = .ok (.iload_n 1, 1) := by decide +kernel
theorem d_RM_count_143 : decode prog_12_method_27_code 143 = .ok (.bipush 7, 2) := by decide +kernel
theorem d_RM_count_145 : decode prog_12_method_27_code 145 = .ok (.if_icmp .ne 10, 3) := by decide +kernel
theorem d_RM_count_155 : decode prog_12_method_27_code 155 = .ok (.iload_n 1, 1) := by decide +kernel
theorem d_RM_count_156 : decode prog_12_method_27_code 156 = .ok (.bipush 8, 2) := by decide +kernel
theorem d_RM_count_158 : decode prog_12_method_27_code 158 = .ok (.if_icmp .ne 10, 3) := by decide +kernel
theorem d_RM_count_168 : decode prog_12_method_27_code 168 = .ok (.aload_n 0, 1) := by decide +kernel
theorem d_RM_count_169 : decode prog_12_method_27_code 169 = .ok (.getfield 101, 3) := by decide +kernel
theorem d_RM_count_172 : decode prog_12_method_27_code 172 = .ok (.ireturn, 1) := by decide +kernel
theorem d_RM_count_161 : decode prog_12_method_27_code 161 = .ok (.aload_n 0, 1) := by decide +kernel
theorem d_RM_count_162 : decode prog_12_method_27_code 162 = .ok (.getfield 98, 3) := by decide +kernel
theorem d_RM_count_165 : decode prog_12_method_27_code 165 = .ok (.goto 7, 3) := by decide +kernel
theorem d_RM_count_148 : decode prog_12_method_27_code 148 = .ok (.aload_n 0, 1) := by decide +kernel
theorem d_RM_count_149 : decode prog_12_method_27_code 149 = .ok (.getfield 169, 3) := by decide +kernel
theorem d_RM_count_152 : decode prog_12_method_27_code 152 = .ok (.goto 20, 3) := by decide +kernel
theorem d_RM_count_108 : decode prog_12_method_27_code 108 = .ok (.iload_n 1, 1) := by decide +kernel
theorem d_RM_count_109 : decode prog_12_method_27_code 109 = .ok (.iconst 4, 1) := by decide +kernel
theorem d_RM_count_110 : decode prog_12_method_27_code 110 = .ok (.if_icmp .ne 7, 3) := by decide +kernel
theorem d_RM_count_117 : decode prog_12_method_27_code 117 = .ok (.iload_n 1, 1) := by decide +kernel
theorem d_RM_count_118 : decode prog_12_method_27_code 118 = .ok (.iconst 5, 1) := by decide +kernel
theorem d_RM_count_119 : decode prog_12_method_27_code 119 = .ok (.if_icmp .ne 10, 3) := by decide +kernel
theorem d_RM_count_129 : decode prog_12_method_27_code 129 = .ok (.aload_n 0, 1) := by decide +kernel
theorem d_RM_count_130 : decode prog_12_method_27_code 130 = .ok (.getfield 155, 3) := by decide +kernel
theorem d_RM_count_133 : decode prog_12_method_27_code 133 = .ok (.ifCond .le 7, 3) := by decide +kernel
theorem d_RM_count_140 : decode prog_12_method_27_code 140 = .ok (.iconst 0, 1) := by decide +kernel
theorem d_RM_count_141 : decode prog_12_method_27_code 141 = .ok (.ireturn, 1) := by decide +kernel
theorem d_RM_count_122 : decode prog_12_method_27_code 122 = .ok (.aload_n 0, 1) := by decide +kernel
theorem d_RM_count_123 : decode prog_12_method_27_code 123 = .ok (.invokevirtual 207, 3) := by decide +kernel
theorem d_RM_count_126 : decode prog_12_method_27_code 126 = .ok (.goto 15, 3) := by decide +kernel
theorem d_RM_count_113 : decode prog_12_method_27_code 113 = .ok (.iload_n 2, 1) := by decide +kernel
theorem d_RM_count_114 : decode prog_12_method_27_code 114 = .ok (.goto 27, 3) := by decide +kernel
theorem d_RM_count_62 : decode prog_12_method_27_code 62 = .ok (.iload_n 1, 1) := by decide +kernel
theorem d_RM_count_63 : decode prog_12_method_27_code 63 = .ok (.ifCond .ne 10, 3) := by decide +kernel
theorem d_RM_count_73 : decode prog_12_method_27_code 73 = .ok (.iload_n 1, 1) := by decide +kernel
theorem d_RM_count_74 : decode prog_12_method_27_code 74 = .ok (.iconst 1, 1) := by decide +kernel
theorem d_RM_count_75 : decode prog_12_method_27_code 75 = .ok (.if_icmp .ne 10, 3) := by decide +kernel
theorem d_RM_count_85 : decode prog_12_method_27_code 85 = .ok (.iload_n 1, 1) := by decide +kernel
theorem d_RM_count_86 : decode prog_12_method_27_code 86 = .ok (.iconst 2, 1) := by decide +kernel
theorem d_RM_count_87 : decode prog_12_method_27_code 87 = .ok (.if_icmp .ne 10, 3) := by decide +kernel
theorem d_RM_count_97 : decode prog_12_method_27_code 97 = .ok (.aload_n 0, 1) := by decide +kernel
theorem d_RM_count_98 : decode prog_12_method_27_code 98 = .ok (.getfield 149, 3) := by decide +kernel
theorem d_RM_count_101 : decode prog_12_method_27_code 101 = .ok (.ireturn, 1) := by decide +kernel
theorem d_RM_count_90 : decode prog_12_method_27_code 90 = .ok (.aload_n 0, 1) := by decide +kernel
theorem d_RM_count_91 : decode prog_12_method_27_code 91 = .ok (.getfield 158, 3) := by decide +kernel
theorem d_RM_count_94 : decode prog_12_method_27_code 94 = .ok (.goto 7, 3) := by decide +kernel
theorem d_RM_count_78 : decode prog_12_method_27_code 78 = .ok (.aload_n 0, 1) := by decide +kernel
theorem d_RM_count_79 : decode prog_12_method_27_code 79 = .ok (.getfield 155, 3) := by decide +kernel
theorem d_RM_count_82 : decode prog_12_method_27_code 82 = .ok (.goto 19, 3) := by decide +kernel
theorem d_RM_count_66 : decode prog_12_method_27_code 66 = .ok (.aload_n 0, 1) := by decide +kernel
theorem d_RM_count_67 : decode prog_12_method_27_code 67 = .ok (.getfield 152, 3) := by decide +kernel
theorem d_RM_count_70 : decode prog_12_method_27_code 70 = .ok (.goto 31, 3) := by decide +kernel
theorem d_RM_count_21 : decode prog_12_method_27_code 21 = .ok (.iconst 0, 1) := by decide +kernel
theorem d_RM_count_22 : decode prog_12_method_27_code 22 = .ok (.istore 4, 2) := by decide +kernel
theorem d_RM_count_24 : decode prog_12_method_27_code 24 = .ok (.iload 4, 2) := by decide +kernel
theorem d_RM_count_26 : decode prog_12_method_27_code 26 = .ok (.bipush 8, 2) := by decide +kernel
theorem d_RM_count_28 : decode prog_12_method_27_code 28 = .ok (.if_icmp .ge 23, 3) := by decide +kernel
theorem d_RM_count_51 : decode prog_12_method_27_code 51 = .ok (.iinc 3 1, 3) := by decide +kernel
theorem d_RM_count_54 : decode prog_12_method_27_code 54 = .ok (.goto (-39), 3) := by decide +kernel
theorem d_RM_count_31 : decode prog_12_method_27_code 31 = .ok (.iload_n 2, 1) := by decide +kernel
theorem d_RM_count_32 : decode prog_12_method_27_code 32 = .ok (.aload_n 0, 1) := by decide +kernel
theorem d_RM_count_33 : decode prog_12_method_27_code 33 = .ok (.getfield 36, 3) := by decide +kernel
theorem d_RM_count_36 : decode prog_12_method_27_code 36 = .ok (.iload_n 3, 1) := by decide +kernel
theorem d_RM_count_37 : decode prog_12_method_27_code 37 = .ok (.iaload, 1) := by decide +kernel
theorem d_RM_count_38 : decode prog_12_method_27_code 38 = .ok (.iload 4, 2) := by decide +kernel
theorem d_RM_count_40 : decode prog_12_method_27_code 40 = .ok (.ishr, 1) := by decide +kernel
theorem d_RM_count_41 : decode prog_12_method_27_code 41 = .ok (.iconst 1, 1) := by decide +kernel
theorem d_RM_count_42 : decode prog_12_method_27_code 42 = .ok (.iand, 1) := by decide +kernel
theorem d_RM_count_43 : decode prog_12_method_27_code 43 = .ok (.iadd, 1) := by decide +kernel
theorem d_RM_count_44 : decode prog_12_method_27_code 44 = .ok (.istore_n 2, 1) := by decide +kernel
