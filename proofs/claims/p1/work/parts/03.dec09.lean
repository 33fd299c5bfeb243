theorem d_KitRunner_count_72 : decode prog_1_method_13_code 72 = .ok (.aload_n 0, 1) := by decide +kernel
theorem d_KitRunner_count_73 : decode prog_1_method_13_code 73 = .ok (.getfield 33, 3) := by decide +kernel
theorem d_KitRunner_count_76 : decode prog_1_method_13_code 76 = .ok (.invokevirtual 174, 3) := by decide +kernel
theorem d_KitRunner_count_79 : decode prog_1_method_13_code 79 = .ok (.ireturn, 1) := by decide +kernel
theorem d_KitRunner_count_80 : decode prog_1_method_13_code 80 = .ok (.aload_n 0, 1) := by decide +kernel
theorem d_KitRunner_count_81 : decode prog_1_method_13_code 81 = .ok (.getfield 26, 3) := by decide +kernel
theorem d_KitRunner_count_84 : decode prog_1_method_13_code 84 = .ok (.invokevirtual 177, 3) := by decide +kernel
theorem d_KitRunner_count_87 : decode prog_1_method_13_code 87 = .ok (.ireturn, 1) := by decide +kernel
theorem d_KitRunner_count_88 : decode prog_1_method_13_code 88 = .ok (.aload_n 0, 1) := by decide +kernel
theorem d_KitRunner_count_89 : decode prog_1_method_13_code 89 = .ok (.getfield 33, 3) := by decide +kernel
theorem d_KitRunner_count_92 : decode prog_1_method_13_code 92 = .ok (.invokevirtual 178, 3) := by decide +kernel
theorem d_KitRunner_count_95 : decode prog_1_method_13_code 95 = .ok (.ireturn, 1) := by decide +kernel
theorem d_KitRunner_count_96 : decode prog_1_method_13_code 96 = .ok (.aload_n 0, 1) := by decide +kernel
theorem d_KitRunner_count_97 : decode prog_1_method_13_code 97 = .ok (.getfield 47, 3) := by decide +kernel
theorem d_KitRunner_count_100 : decode prog_1_method_13_code 100 = .ok (.invokevirtual 181, 3) := by decide +kernel
theorem d_KitRunner_count_103 : decode prog_1_method_13_code 103 = .ok (.ireturn, 1) := by decide +kernel
theorem d_KitRunner_count_104 : decode prog_1_method_13_code 104 = .ok (.aload_n 0, 1) := by decide +kernel
theorem d_KitRunner_count_105 : decode prog_1_method_13_code 105 = .ok (.getfield 33, 3) := by decide +kernel
theorem d_KitRunner_count_108 : decode prog_1_method_13_code 108 = .ok (.invokevirtual 128, 3) := by decide +kernel
theorem d_KitRunner_count_111 : decode prog_1_method_13_code 111 = .ok (.ifCond .le 7, 3) := by decide +kernel
theorem d_KitRunner_count_118 : decode prog_1_method_13_code 118 = .ok (.iconst 0, 1) := by decide +kernel
theorem d_KitRunner_count_119 : decode prog_1_method_13_code 119 = .ok (.ireturn, 1) := by decide +kernel
theorem d_KitRunner_count_114 : decode prog_1_method_13_code 114 = .ok (.iconst 1, 1) := by decide +kernel
theorem d_KitRunner_count_115 : decode prog_1_method_13_code 115 = .ok (.goto 4, 3) := by decide +kernel
theorem d_KitRunner_count_120 : decode prog_1_method_13_code 120 = .ok (.aload_n 0, 1) := by decide +kernel
theorem d_KitRunner_count_121 : decode prog_1_method_13_code 121 = .ok (.getfield 63, 3) := by decide +kernel
theorem d_KitRunner_count_124 : decode prog_1_method_13_code 124 = .ok (.ireturn, 1) := by decide +kernel
theorem d_KitRunner_count_125 : decode prog_1_method_13_code 125 = .ok (.aload_n 0, 1) := by decide +kernel
theorem d_KitRunner_count_126 : decode prog_1_method_13_code 126 = .ok (.getfield 10, 3) := by decide +kernel
theorem d_KitRunner_count_129 : decode prog_1_method_13_code 129 = .ok (.invokevirtual 74, 3) := by decide +kernel
theorem d_KitRunner_count_132 : decode prog_1_method_13_code 132 = .ok (.ireturn, 1) := by decide +kernel
theorem d_KitRunner_count_133 : decode prog_1_method_13_code 133 = .ok (.aload_n 0, 1) := by decide +kernel
theorem d_KitRunner_count_134 : decode prog_1_method_13_code 134 = .ok (.getfield 19, 3) := by decide +kernel
theorem d_KitRunner_count_137 : decode prog_1_method_13_code 137 = .ok (.invokevirtual 82, 3) := by decide +kernel
theorem d_KitRunner_count_140 : decode prog_1_method_13_code 140 = .ok (.ireturn, 1) := by decide +kernel
theorem d_KitRunner_count_141 : decode prog_1_method_13_code 141 = .ok (.iconst (-1), 1) := by decide +kernel
theorem d_KitRunner_count_142 : decode prog_1_method_13_code 142 = .ok (.ireturn, 1) := by decide +kernel
theorem d_KitRunner_writeReport_0 : decode prog_1_method_22_code 0 = .ok (.iconst 0, 1) := by decide +kernel
theorem d_KitRunner_writeReport_1 : decode prog_1_method_22_code 1 = .ok (.istore_n 1, 1) := by decide +kernel
theorem d_KitRunner_writeReport_2 : decode prog_1_method_22_code 2 = .ok (.iload_n 1, 1) := by decide +kernel
theorem d_KitRunner_writeReport_3 : decode prog_1_method_22_code 3 = .ok (.bipush 16, 2) := by decide +kernel
theorem d_KitRunner_writeReport_5 : decode prog_1_method_22_code 5 = .ok (.if_icmp .ge 88, 3) := by decide +kernel
theorem d_KitRunner_writeReport_93 : decode prog_1_method_22_code 93 = .ok (.aload_n 0, 1) := by decide +kernel
theorem d_KitRunner_writeReport_94 : decode prog_1_method_22_code 94 = .ok (.getfield 47, 3) := by decide +kernel
theorem d_KitRunner_writeReport_97 : decode prog_1_method_22_code 97 = .ok (.aload_n 0, 1) := by decide +kernel
theorem d_KitRunner_writeReport_98 : decode prog_1_method_22_code 98 = .ok (.getfield 33, 3) := by decide +kernel
theorem d_KitRunner_writeReport_101 : decode prog_1_method_22_code 101 = .ok (.invokevirtual 128, 3) := by decide +kernel
theorem d_KitRunner_writeReport_104 : decode prog_1_method_22_code 104 = .ok (.ifCond .le 8, 3) := by decide +kernel
theorem d_KitRunner_writeReport_112 : decode prog_1_method_22_code 112 = .ok (.ldc 245, 2) := by decide +kernel
theorem d_KitRunner_writeReport_114 : decode prog_1_method_22_code 114 = .ok (.invokevirtual 229, 3) := by decide +kernel
theorem d_KitRunner_writeReport_117 : decode prog_1_method_22_code 117 = .ok (.aload_n 0, 1) := by decide +kernel
theorem d_KitRunner_writeReport_118 : decode prog_1_method_22_code 118 = .ok (.getfield 47, 3) := by decide +kernel
theorem d_KitRunner_writeReport_121 : decode prog_1_method_22_code 121 = .ok (.bipush 10, 2) := by decide +kernel
theorem d_KitRunner_writeReport_123 : decode prog_1_method_22_code 123 = .ok (.invokevirtual 233, 3) := by decide +kernel
theorem d_KitRunner_writeReport_126 : decode prog_1_method_22_code 126 = .ok (.return_, 1) := by decide +kernel
theorem d_KitRunner_writeReport_107 : decode prog_1_method_22_code 107 = .ok (.ldc 243, 2) := by decide +kernel
theorem d_KitRunner_writeReport_109 : decode prog_1_method_22_code 109 = .ok (.goto 5, 3) := by decide +kernel
theorem d_KitRunner_writeReport_8 : decode prog_1_method_22_code 8 = .ok (.aload_n 0, 1) := by decide +kernel
theorem d_KitRunner_writeReport_9 : decode prog_1_method_22_code 9 = .ok (.getfield 33, 3) := by decide +kernel
theorem d_KitRunner_writeReport_12 : decode prog_1_method_22_code 12 = .ok (.iload_n 1, 1) := by decide +kernel
theorem d_KitRunner_writeReport_13 : decode prog_1_method_22_code 13 = .ok (.invokevirtual 226, 3) := by decide +kernel
theorem d_KitRunner_writeReport_16 : decode prog_1_method_22_code 16 = .ok (.ifCond .le 71, 3) := by decide +kernel
theorem d_KitRunner_writeReport_87 : decode prog_1_method_22_code 87 = .ok (.iinc 1 1, 3) := by decide +kernel
theorem d_KitRunner_writeReport_90 : decode prog_1_method_22_code 90 = .ok (.goto (-88), 3) := by decide +kernel
theorem d_KitRunner_writeReport_19 : decode prog_1_method_22_code 19 = .ok (.aload_n 0, 1) := by decide +kernel
theorem d_KitRunner_writeReport_20 : decode prog_1_method_22_code 20 = .ok (.getfield 47, 3) := by decide +kernel
theorem d_KitRunner_writeReport_23 : decode prog_1_method_22_code 23 = .ok (.iload_n 1, 1) := by decide +kernel
theorem d_KitRunner_writeReport_24 : decode prog_1_method_22_code 24 = .ok (.invokestatic 95, 3) := by decide +kernel
theorem d_KitRunner_writeReport_27 : decode prog_1_method_22_code 27 = .ok (.invokevirtual 229, 3) := by decide +kernel
theorem d_KitRunner_writeReport_30 : decode prog_1_method_22_code 30 = .ok (.aload_n 0, 1) := by decide +kernel
theorem d_KitRunner_writeReport_31 : decode prog_1_method_22_code 31 = .ok (.getfield 47, 3) := by decide +kernel
theorem d_KitRunner_writeReport_34 : decode prog_1_method_22_code 34 = .ok (.bipush 32, 2) := by decide +kernel
theorem d_KitRunner_writeReport_36 : decode prog_1_method_22_code 36 = .ok (.invokevirtual 233, 3) := by decide +kernel
theorem d_KitRunner_writeReport_39 : decode prog_1_method_22_code 39 = .ok (.aload_n 0, 1) := by decide +kernel
theorem d_KitRunner_writeReport_40 : decode prog_1_method_22_code 40 = .ok (.getfield 47, 3) := by decide +kernel
theorem d_KitRunner_writeReport_43 : decode prog_1_method_22_code 43 = .ok (.aload_n 0, 1) := by decide +kernel
theorem d_KitRunner_writeReport_44 : decode prog_1_method_22_code 44 = .ok (.getfield 33, 3) := by decide +kernel
theorem d_KitRunner_writeReport_47 : decode prog_1_method_22_code 47 = .ok (.iload_n 1, 1) := by decide +kernel
theorem d_KitRunner_writeReport_48 : decode prog_1_method_22_code 48 = .ok (.invokevirtual 226, 3) := by decide +kernel
theorem d_KitRunner_writeReport_51 : decode prog_1_method_22_code 51 = .ok (.invokevirtual 237, 3) := by decide +kernel
theorem d_KitRunner_writeReport_54 : decode prog_1_method_22_code 54 = .ok (.aload_n 0, 1) := by decide +kernel
theorem d_KitRunner_writeReport_55 : decode prog_1_method_22_code 55 = .ok (.getfield 47, 3) := by decide +kernel
theorem d_KitRunner_writeReport_58 : decode prog_1_method_22_code 58 = .ok (.bipush 32, 2) := by decide +kernel
theorem d_KitRunner_writeReport_60 : decode prog_1_method_22_code 60 = .ok (.invokevirtual 233, 3) := by decide +kernel
theorem d_KitRunner_writeReport_63 : decode prog_1_method_22_code 63 = .ok (.aload_n 0, 1) := by decide +kernel
theorem d_KitRunner_writeReport_64 : decode prog_1_method_22_code 64 = .ok (.getfield 47, 3) := by decide +kernel
theorem d_KitRunner_writeReport_67 : decode prog_1_method_22_code 67 = .ok (.aload_n 0, 1) := by decide +kernel
theorem d_KitRunner_writeReport_68 : decode prog_1_method_22_code 68 = .ok (.getfield 33, 3) := by decide +kernel
theorem d_KitRunner_writeReport_71 : decode prog_1_method_22_code 71 = .ok (.iload_n 1, 1) := by decide +kernel
theorem d_KitRunner_writeReport_72 : decode prog_1_method_22_code 72 = .ok (.invokevirtual 240, 3) := by decide +kernel
theorem d_KitRunner_writeReport_75 : decode prog_1_method_22_code 75 = .ok (.invokevirtual 237, 3) := by decide +kernel
theorem d_KitRunner_writeReport_78 : decode prog_1_method_22_code 78 = .ok (.aload_n 0, 1) := by decide +kernel
theorem d_KitRunner_writeReport_79 : decode prog_1_method_22_code 79 = .ok (.getfield 47, 3) := by decide +kernel
theorem d_KitRunner_writeReport_82 : decode prog_1_method_22_code 82 = .ok (.bipush 10, 2) := by decide +kernel
theorem d_KitRunner_writeReport_84 : decode prog_1_method_22_code 84 = .ok (.invokevirtual 233, 3) := by decide +kernel
theorem d_KitRunner_run_0 : decode prog_1_method_8_code 0 = .ok (.iload_n 1, 1) := by decide +kernel
theorem d_KitRunner_run_1 : decode prog_1_method_8_code 1 = .ok (.iconst 1, 1) := by decide +kernel
theorem d_KitRunner_run_2 : decode prog_1_method_8_code 2 = .ok (.if_icmp .lt 8, 3) := by decide +kernel
theorem d_KitRunner_run_10 : decode prog_1_method_8_code 10 = .ok (.iconst (-1), 1) := by decide +kernel
theorem d_KitRunner_run_11 : decode prog_1_method_8_code 11 = .ok (.ireturn, 1) := by decide +kernel
theorem d_KitRunner_run_5 : decode prog_1_method_8_code 5 = .ok (.iload_n 1, 1) := by decide +kernel
theorem d_KitRunner_run_6 : decode prog_1_method_8_code 6 = .ok (.iconst 3, 1) := by decide +kernel
theorem d_KitRunner_run_7 : decode prog_1_method_8_code 7 = .ok (.if_icmp .le 5, 3) := by decide +kernel
theorem d_KitRunner_run_12 : decode prog_1_method_8_code 12 = .ok (.aload_n 0, 1) := by decide +kernel
theorem d_KitRunner_run_13 : decode prog_1_method_8_code 13 = .ok (.invokevirtual 114, 3) := by decide +kernel
theorem d_KitRunner_run_16 : decode prog_1_method_8_code 16 = .ok (.iconst 0, 1) := by decide +kernel
theorem d_KitRunner_run_17 : decode prog_1_method_8_code 17 = .ok (.istore_n 3, 1) := by decide +kernel
theorem d_KitRunner_run_18 : decode prog_1_method_8_code 18 = .ok (.iload_n 3, 1) := by decide +kernel
theorem d_KitRunner_run_19 : decode prog_1_method_8_code 19 = .ok (.bipush 16, 2) := by decide +kernel
theorem d_KitRunner_run_21 : decode prog_1_method_8_code 21 = .ok (.if_icmp .ge 31, 3) := by decide +kernel
theorem d_KitRunner_run_52 : decode prog_1_method_8_code 52 = .ok (.aload_n 0, 1) := by decide +kernel
theorem d_KitRunner_run_53 : decode prog_1_method_8_code 53 = .ok (.invokevirtual 125, 3) := by decide +kernel
theorem d_KitRunner_run_56 : decode prog_1_method_8_code 56 = .ok (.aload_n 0, 1) := by decide +kernel
theorem d_KitRunner_run_57 : decode prog_1_method_8_code 57 = .ok (.dup, 1) := by decide +kernel
theorem d_KitRunner_run_58 : decode prog_1_method_8_code 58 = .ok (.getfield 63, 3) := by decide +kernel
theorem d_KitRunner_run_61 : decode prog_1_method_8_code 61 = .ok (.iconst 1, 1) := by decide +kernel
theorem d_KitRunner_run_62 : decode prog_1_method_8_code 62 = .ok (.iadd, 1) := by decide +kernel
theorem d_KitRunner_run_63 : decode prog_1_method_8_code 63 = .ok (.putfield 63, 3) := by decide +kernel
theorem d_KitRunner_run_66 : decode prog_1_method_8_code 66 = .ok (.aload_n 0, 1) := by decide +kernel
theorem d_KitRunner_run_67 : decode prog_1_method_8_code 67 = .ok (.getfield 33, 3) := by decide +kernel
theorem d_KitRunner_run_70 : decode prog_1_method_8_code 70 = .ok (.invokevirtual 128, 3) := by decide +kernel
theorem d_KitRunner_run_73 : decode prog_1_method_8_code 73 = .ok (.ireturn, 1) := by decide +kernel
theorem d_KitRunner_run_24 : decode prog_1_method_8_code 24 = .ok (.aload_n 0, 1) := by decide +kernel
theorem d_KitRunner_run_25 : decode prog_1_method_8_code 25 = .ok (.getfield 59, 3) := by decide +kernel
theorem d_KitRunner_run_28 : decode prog_1_method_8_code 28 = .ok (.iload_n 3, 1) := by decide +kernel
theorem d_KitRunner_run_29 : decode prog_1_method_8_code 29 = .ok (.ishr, 1) := by decide +kernel
theorem d_KitRunner_run_30 : decode prog_1_method_8_code 30 = .ok (.iconst 1, 1) := by decide +kernel
theorem d_KitRunner_run_31 : decode prog_1_method_8_code 31 = .ok (.iand, 1) := by decide +kernel
theorem d_KitRunner_run_32 : decode prog_1_method_8_code 32 = .ok (.iconst 1, 1) := by decide +kernel
theorem d_KitRunner_run_33 : decode prog_1_method_8_code 33 = .ok (.if_icmp .ne 13, 3) := by decide +kernel
theorem d_KitRunner_run_46 : decode prog_1_method_8_code 46 = .ok (.iinc 3 1, 3) := by decide +kernel
theorem d_KitRunner_run_49 : decode prog_1_method_8_code 49 = .ok (.goto (-31), 3) := by decide +kernel
theorem d_KitRunner_run_36 : decode prog_1_method_8_code 36 = .ok (.aload_n 0, 1) := by decide +kernel
theorem d_KitRunner_run_37 : decode prog_1_method_8_code 37 = .ok (.iload_n 3, 1) := by decide +kernel
theorem d_KitRunner_run_38 : decode prog_1_method_8_code 38 = .ok (.iload_n 1, 1) := by decide +kernel
theorem d_KitRunner_run_39 : decode prog_1_method_8_code 39 = .ok (.invokestatic 117, 3) := by decide +kernel
theorem d_KitRunner_run_42 : decode prog_1_method_8_code 42 = .ok (.iload_n 2, 1) := by decide +kernel
theorem d_KitRunner_run_43 : decode prog_1_method_8_code 43 = .ok (.invokevirtual 121, 3) := by decide +kernel
theorem d_K_Shrinker_reduce_0 : decode prog_8_method_2_code 0 = .ok (.aload_n 0, 1) := by decide +kernel
theorem d_K_Shrinker_reduce_1 : decode prog_8_method_2_code 1 = .ok (.iload_n 3, 1) := by decide +kernel
theorem d_K_Shrinker_reduce_2 : decode prog_8_method_2_code 2 = .ok (.putfield 9, 3) := by decide +kernel
theorem d_K_Shrinker_reduce_5 : decode prog_8_method_2_code 5 = .ok (.aload_n 0, 1) := by decide +kernel
theorem d_K_Shrinker_reduce_6 : decode prog_8_method_2_code 6 = .ok (.iload 4, 2) := by decide +kernel
theorem d_K_Shrinker_reduce_8 : decode prog_8_method_2_code 8 = .ok (.putfield 15, 3) := by decide +kernel
theorem d_K_Shrinker_reduce_11 : decode prog_8_method_2_code 11 = .ok (.aload_n 0, 1) := by decide +kernel
theorem d_K_Shrinker_reduce_12 : decode prog_8_method_2_code 12 = .ok (.iconst 0, 1) := by decide +kernel
theorem d_K_Shrinker_reduce_13 : decode prog_8_method_2_code 13 = .ok (.putfield 18, 3) := by decide +kernel
theorem d_K_Shrinker_reduce_16 : decode prog_8_method_2_code 16 = .ok (.aload_n 1, 1) := by decide +kernel
theorem d_K_Shrinker_reduce_17 : decode prog_8_method_2_code 17 = .ok (.iload_n 2, 1) := by decide +kernel
theorem d_K_Shrinker_reduce_18 : decode prog_8_method_2_code 18 = .ok (.aload_n 0, 1) := by decide +kernel
theorem d_K_Shrinker_reduce_19 : decode prog_8_method_2_code 19 = .ok (.getfield 9, 3) := by decide +kernel
theorem d_K_Shrinker_reduce_22 : decode prog_8_method_2_code 22 = .ok (.aload_n 0, 1) := by decide +kernel
theorem d_K_Shrinker_reduce_23 : decode prog_8_method_2_code 23 = .ok (.getfield 15, 3) := by decide +kernel
theorem d_K_Shrinker_reduce_26 : decode prog_8_method_2_code 26 = .ok (.invokevirtual 21, 3) := by decide +kernel
theorem d_K_Shrinker_reduce_29 : decode prog_8_method_2_code 29 = .ok (.ifCond .ne 4, 3) := by decide +kernel
theorem d_K_Shrinker_reduce_33 : decode prog_8_method_2_code 33 = .ok (.aload_n 0, 1) := by decide +kernel
theorem d_K_Shrinker_reduce_34 : decode prog_8_method_2_code 34 = .ok (.getfield 18, 3) := by decide +kernel
theorem d_K_Shrinker_reduce_37 : decode prog_8_method_2_code 37 = .ok (.bipush 24, 2) := by decide +kernel
theorem d_K_Shrinker_reduce_39 : decode prog_8_method_2_code 39 = .ok (.if_icmp .ge 34, 3) := by decide +kernel
theorem d_K_Shrinker_reduce_73 : decode prog_8_method_2_code 73 = .ok (.return_, 1) := by decide +kernel
