theorem d_K_Shrinker_reduce_42 : decode prog_8_method_2_code 42 = .ok (.aload_n 0, 1) := by decide +kernel
theorem d_K_Shrinker_reduce_43 : decode prog_8_method_2_code 43 = .ok (.aload_n 1, 1) := by decide +kernel
theorem d_K_Shrinker_reduce_44 : decode prog_8_method_2_code 44 = .ok (.iload_n 2, 1) := by decide +kernel
theorem d_K_Shrinker_reduce_45 : decode prog_8_method_2_code 45 = .ok (.invokevirtual 27, 3) := by decide +kernel
theorem d_K_Shrinker_reduce_48 : decode prog_8_method_2_code 48 = .ok (.ifCond .ne 12, 3) := by decide +kernel
theorem d_K_Shrinker_reduce_60 : decode prog_8_method_2_code 60 = .ok (.aload_n 0, 1) := by decide +kernel
theorem d_K_Shrinker_reduce_61 : decode prog_8_method_2_code 61 = .ok (.dup, 1) := by decide +kernel
theorem d_K_Shrinker_reduce_62 : decode prog_8_method_2_code 62 = .ok (.getfield 18, 3) := by decide +kernel
theorem d_K_Shrinker_reduce_65 : decode prog_8_method_2_code 65 = .ok (.iconst 1, 1) := by decide +kernel
theorem d_K_Shrinker_reduce_66 : decode prog_8_method_2_code 66 = .ok (.iadd, 1) := by decide +kernel
theorem d_K_Shrinker_reduce_67 : decode prog_8_method_2_code 67 = .ok (.putfield 18, 3) := by decide +kernel
theorem d_K_Shrinker_reduce_70 : decode prog_8_method_2_code 70 = .ok (.goto (-37), 3) := by decide +kernel
theorem d_K_Shrinker_reduce_51 : decode prog_8_method_2_code 51 = .ok (.aload_n 0, 1) := by decide +kernel
theorem d_K_Shrinker_reduce_52 : decode prog_8_method_2_code 52 = .ok (.aload_n 1, 1) := by decide +kernel
theorem d_K_Shrinker_reduce_53 : decode prog_8_method_2_code 53 = .ok (.iload_n 2, 1) := by decide +kernel
theorem d_K_Shrinker_reduce_54 : decode prog_8_method_2_code 54 = .ok (.invokevirtual 31, 3) := by decide +kernel
theorem d_K_Shrinker_reduce_57 : decode prog_8_method_2_code 57 = .ok (.ifCond .eq 16, 3) := by decide +kernel
theorem d_K_Shrinker_reduce_32 : decode prog_8_method_2_code 32 = .ok (.return_, 1) := by decide +kernel
theorem d_KitRunner_shrink_0 : decode prog_1_method_10_code 0 = .ok (.iload_n 1, 1) := by decide +kernel
theorem d_KitRunner_shrink_1 : decode prog_1_method_10_code 1 = .ok (.ifCond .lt 14, 3) := by decide +kernel
theorem d_KitRunner_shrink_15 : decode prog_1_method_10_code 15 = .ok (.ldc2_w 105, 3) := by decide +kernel
theorem d_KitRunner_shrink_18 : decode prog_1_method_10_code 18 = .ok (.lreturn, 1) := by decide +kernel
theorem d_KitRunner_shrink_4 : decode prog_1_method_10_code 4 = .ok (.iload_n 1, 1) := by decide +kernel
theorem d_KitRunner_shrink_5 : decode prog_1_method_10_code 5 = .ok (.aload_n 0, 1) := by decide +kernel
theorem d_KitRunner_shrink_6 : decode prog_1_method_10_code 6 = .ok (.getfield 40, 3) := by decide +kernel
theorem d_KitRunner_shrink_9 : decode prog_1_method_10_code 9 = .ok (.invokevirtual 131, 3) := by decide +kernel
theorem d_KitRunner_shrink_12 : decode prog_1_method_10_code 12 = .ok (.if_icmp .lt 7, 3) := by decide +kernel
theorem d_KitRunner_shrink_19 : decode prog_1_method_10_code 19 = .ok (.aload_n 0, 1) := by decide +kernel
theorem d_KitRunner_shrink_20 : decode prog_1_method_10_code 20 = .ok (.getfield 54, 3) := by decide +kernel
theorem d_KitRunner_shrink_23 : decode prog_1_method_10_code 23 = .ok (.aload_n 0, 1) := by decide +kernel
theorem d_KitRunner_shrink_24 : decode prog_1_method_10_code 24 = .ok (.getfield 10, 3) := by decide +kernel
theorem d_KitRunner_shrink_27 : decode prog_1_method_10_code 27 = .ok (.aload_n 0, 1) := by decide +kernel
theorem d_KitRunner_shrink_28 : decode prog_1_method_10_code 28 = .ok (.getfield 40, 3) := by decide +kernel
theorem d_KitRunner_shrink_31 : decode prog_1_method_10_code 31 = .ok (.iload_n 1, 1) := by decide +kernel
theorem d_KitRunner_shrink_32 : decode prog_1_method_10_code 32 = .ok (.invokevirtual 132, 3) := by decide +kernel
theorem d_KitRunner_shrink_35 : decode prog_1_method_10_code 35 = .ok (.aload_n 0, 1) := by decide +kernel
theorem d_KitRunner_shrink_36 : decode prog_1_method_10_code 36 = .ok (.getfield 40, 3) := by decide +kernel
theorem d_KitRunner_shrink_39 : decode prog_1_method_10_code 39 = .ok (.iload_n 1, 1) := by decide +kernel
theorem d_KitRunner_shrink_40 : decode prog_1_method_10_code 40 = .ok (.invokevirtual 139, 3) := by decide +kernel
theorem d_KitRunner_shrink_43 : decode prog_1_method_10_code 43 = .ok (.aload_n 0, 1) := by decide +kernel
theorem d_KitRunner_shrink_44 : decode prog_1_method_10_code 44 = .ok (.getfield 40, 3) := by decide +kernel
theorem d_KitRunner_shrink_47 : decode prog_1_method_10_code 47 = .ok (.iload_n 1, 1) := by decide +kernel
theorem d_KitRunner_shrink_48 : decode prog_1_method_10_code 48 = .ok (.invokevirtual 142, 3) := by decide +kernel
theorem d_KitRunner_shrink_51 : decode prog_1_method_10_code 51 = .ok (.invokevirtual 152, 3) := by decide +kernel
theorem d_KitRunner_shrink_54 : decode prog_1_method_10_code 54 = .ok (.iload_n 2, 1) := by decide +kernel
theorem d_KitRunner_shrink_55 : decode prog_1_method_10_code 55 = .ok (.tableswitch 52 0 2 #[25, 34, 43], 25) := by decide +kernel
theorem d_KitRunner_shrink_80 : decode prog_1_method_10_code 80 = .ok (.aload_n 0, 1) := by decide +kernel
theorem d_KitRunner_shrink_81 : decode prog_1_method_10_code 81 = .ok (.getfield 54, 3) := by decide +kernel
theorem d_KitRunner_shrink_84 : decode prog_1_method_10_code 84 = .ok (.invokevirtual 156, 3) := by decide +kernel
theorem d_KitRunner_shrink_87 : decode prog_1_method_10_code 87 = .ok (.i2l, 1) := by decide +kernel
theorem d_KitRunner_shrink_88 : decode prog_1_method_10_code 88 = .ok (.lreturn, 1) := by decide +kernel
theorem d_KitRunner_shrink_89 : decode prog_1_method_10_code 89 = .ok (.aload_n 0, 1) := by decide +kernel
theorem d_KitRunner_shrink_90 : decode prog_1_method_10_code 90 = .ok (.getfield 54, 3) := by decide +kernel
theorem d_KitRunner_shrink_93 : decode prog_1_method_10_code 93 = .ok (.invokevirtual 159, 3) := by decide +kernel
theorem d_KitRunner_shrink_96 : decode prog_1_method_10_code 96 = .ok (.i2l, 1) := by decide +kernel
theorem d_KitRunner_shrink_97 : decode prog_1_method_10_code 97 = .ok (.lreturn, 1) := by decide +kernel
theorem d_KitRunner_shrink_98 : decode prog_1_method_10_code 98 = .ok (.aload_n 0, 1) := by decide +kernel
theorem d_KitRunner_shrink_99 : decode prog_1_method_10_code 99 = .ok (.getfield 54, 3) := by decide +kernel
theorem d_KitRunner_shrink_102 : decode prog_1_method_10_code 102 = .ok (.invokevirtual 162, 3) := by decide +kernel
theorem d_KitRunner_shrink_105 : decode prog_1_method_10_code 105 = .ok (.i2l, 1) := by decide +kernel
theorem d_KitRunner_shrink_106 : decode prog_1_method_10_code 106 = .ok (.lreturn, 1) := by decide +kernel
theorem d_KitRunner_shrink_107 : decode prog_1_method_10_code 107 = .ok (.ldc2_w 105, 3) := by decide +kernel
theorem d_KitRunner_shrink_110 : decode prog_1_method_10_code 110 = .ok (.lreturn, 1) := by decide +kernel
theorem d_RM_init_0 : decode prog_12_method_1_code 0 = .ok (.aload_n 0, 1) := by decide +kernel
theorem d_RM_init_1 : decode prog_12_method_1_code 1 = .ok (.invokespecial 1, 3) := by decide +kernel
theorem d_RM_init_4 : decode prog_12_method_1_code 4 = .ok (.aload_n 0, 1) := by decide +kernel
theorem d_RM_init_5 : decode prog_12_method_1_code 5 = .ok (.iconst 4, 1) := by decide +kernel
theorem d_RM_init_6 : decode prog_12_method_1_code 6 = .ok (.newarray .int, 2) := by decide +kernel
theorem d_RM_init_8 : decode prog_12_method_1_code 8 = .ok (.putfield 7, 3) := by decide +kernel
theorem d_RM_init_11 : decode prog_12_method_1_code 11 = .ok (.aload_n 0, 1) := by decide +kernel
theorem d_RM_init_12 : decode prog_12_method_1_code 12 = .ok (.iconst 4, 1) := by decide +kernel
theorem d_RM_init_13 : decode prog_12_method_1_code 13 = .ok (.newarray .int, 2) := by decide +kernel
theorem d_RM_init_15 : decode prog_12_method_1_code 15 = .ok (.putfield 13, 3) := by decide +kernel
theorem d_RM_init_18 : decode prog_12_method_1_code 18 = .ok (.aload_n 0, 1) := by decide +kernel
theorem d_RM_init_19 : decode prog_12_method_1_code 19 = .ok (.iconst 4, 1) := by decide +kernel
theorem d_RM_init_20 : decode prog_12_method_1_code 20 = .ok (.newarray .int, 2) := by decide +kernel
theorem d_RM_init_22 : decode prog_12_method_1_code 22 = .ok (.putfield 16, 3) := by decide +kernel
theorem d_RM_init_25 : decode prog_12_method_1_code 25 = .ok (.aload_n 0, 1) := by decide +kernel
theorem d_RM_init_26 : decode prog_12_method_1_code 26 = .ok (.bipush 6, 2) := by decide +kernel
theorem d_RM_init_28 : decode prog_12_method_1_code 28 = .ok (.newarray .int, 2) := by decide +kernel
theorem d_RM_init_30 : decode prog_12_method_1_code 30 = .ok (.putfield 19, 3) := by decide +kernel
theorem d_RM_init_33 : decode prog_12_method_1_code 33 = .ok (.aload_n 0, 1) := by decide +kernel
theorem d_RM_init_34 : decode prog_12_method_1_code 34 = .ok (.bipush 6, 2) := by decide +kernel
theorem d_RM_init_36 : decode prog_12_method_1_code 36 = .ok (.newarray .int, 2) := by decide +kernel
theorem d_RM_init_38 : decode prog_12_method_1_code 38 = .ok (.putfield 22, 3) := by decide +kernel
theorem d_RM_init_41 : decode prog_12_method_1_code 41 = .ok (.aload_n 0, 1) := by decide +kernel
theorem d_RM_init_42 : decode prog_12_method_1_code 42 = .ok (.ldc 25, 2) := by decide +kernel
theorem d_RM_init_44 : decode prog_12_method_1_code 44 = .ok (.putfield 26, 3) := by decide +kernel
theorem d_RM_init_47 : decode prog_12_method_1_code 47 = .ok (.aload_n 0, 1) := by decide +kernel
theorem d_RM_init_48 : decode prog_12_method_1_code 48 = .ok (.bipush 16, 2) := by decide +kernel
theorem d_RM_init_50 : decode prog_12_method_1_code 50 = .ok (.newarray .int, 2) := by decide +kernel
theorem d_RM_init_52 : decode prog_12_method_1_code 52 = .ok (.putfield 30, 3) := by decide +kernel
theorem d_RM_init_55 : decode prog_12_method_1_code 55 = .ok (.aload_n 0, 1) := by decide +kernel
theorem d_RM_init_56 : decode prog_12_method_1_code 56 = .ok (.bipush 16, 2) := by decide +kernel
theorem d_RM_init_58 : decode prog_12_method_1_code 58 = .ok (.newarray .int, 2) := by decide +kernel
theorem d_RM_init_60 : decode prog_12_method_1_code 60 = .ok (.putfield 33, 3) := by decide +kernel
theorem d_RM_init_63 : decode prog_12_method_1_code 63 = .ok (.aload_n 0, 1) := by decide +kernel
theorem d_RM_init_64 : decode prog_12_method_1_code 64 = .ok (.bipush 16, 2) := by decide +kernel
theorem d_RM_init_66 : decode prog_12_method_1_code 66 = .ok (.newarray .int, 2) := by decide +kernel
theorem d_RM_init_68 : decode prog_12_method_1_code 68 = .ok (.putfield 36, 3) := by decide +kernel
theorem d_RM_init_71 : decode prog_12_method_1_code 71 = .ok (.aload_n 0, 1) := by decide +kernel
theorem d_RM_init_72 : decode prog_12_method_1_code 72 = .ok (.sipush 192, 3) := by decide +kernel
theorem d_RM_init_75 : decode prog_12_method_1_code 75 = .ok (.newarray .boolean, 2) := by decide +kernel
theorem d_RM_init_77 : decode prog_12_method_1_code 77 = .ok (.putfield 39, 3) := by decide +kernel
theorem d_RM_init_80 : decode prog_12_method_1_code 80 = .ok (.aload_n 0, 1) := by decide +kernel
theorem d_RM_init_81 : decode prog_12_method_1_code 81 = .ok (.sipush 192, 3) := by decide +kernel
theorem d_RM_init_84 : decode prog_12_method_1_code 84 = .ok (.newarray .boolean, 2) := by decide +kernel
theorem d_RM_init_86 : decode prog_12_method_1_code 86 = .ok (.putfield 43, 3) := by decide +kernel
theorem d_RM_init_89 : decode prog_12_method_1_code 89 = .ok (.aload_n 0, 1) := by decide +kernel
theorem d_RM_init_90 : decode prog_12_method_1_code 90 = .ok (.sipush 144, 3) := by decide +kernel
theorem d_RM_init_93 : decode prog_12_method_1_code 93 = .ok (.newarray .boolean, 2) := by decide +kernel
theorem d_RM_init_95 : decode prog_12_method_1_code 95 = .ok (.putfield 46, 3) := by decide +kernel
theorem d_RM_init_98 : decode prog_12_method_1_code 98 = .ok (.aload_n 0, 1) := by decide +kernel
theorem d_RM_init_99 : decode prog_12_method_1_code 99 = .ok (.bipush 36, 2) := by decide +kernel
theorem d_RM_init_101 : decode prog_12_method_1_code 101 = .ok (.newarray .int, 2) := by decide +kernel
theorem d_RM_init_103 : decode prog_12_method_1_code 103 = .ok (.putfield 49, 3) := by decide +kernel
theorem d_RM_init_106 : decode prog_12_method_1_code 106 = .ok (.aload_n 0, 1) := by decide +kernel
theorem d_RM_init_107 : decode prog_12_method_1_code 107 = .ok (.bipush 24, 2) := by decide +kernel
theorem d_RM_init_109 : decode prog_12_method_1_code 109 = .ok (.newarray .long, 2) := by decide +kernel
theorem d_RM_init_111 : decode prog_12_method_1_code 111 = .ok (.putfield 52, 3) := by decide +kernel
theorem d_RM_init_114 : decode prog_12_method_1_code 114 = .ok (.aload_n 0, 1) := by decide +kernel
theorem d_RM_init_115 : decode prog_12_method_1_code 115 = .ok (.sipush 400, 3) := by decide +kernel
theorem d_RM_init_118 : decode prog_12_method_1_code 118 = .ok (.newarray .int, 2) := by decide +kernel
theorem d_RM_init_120 : decode prog_12_method_1_code 120 = .ok (.putfield 56, 3) := by decide +kernel
theorem d_RM_init_123 : decode prog_12_method_1_code 123 = .ok (.return_, 1) := by decide +kernel
theorem d_RM_in_0 : decode prog_12_method_2_code 0 = .ok (.iload_n 0, 1) := by decide +kernel
theorem d_RM_in_1 : decode prog_12_method_2_code 1 = .ok (.ifCond .lt 12, 3) := by decide +kernel
theorem d_RM_in_13 : decode prog_12_method_2_code 13 = .ok (.iconst 0, 1) := by decide +kernel
theorem d_RM_in_14 : decode prog_12_method_2_code 14 = .ok (.ireturn, 1) := by decide +kernel
theorem d_RM_in_4 : decode prog_12_method_2_code 4 = .ok (.iload_n 0, 1) := by decide +kernel
theorem d_RM_in_5 : decode prog_12_method_2_code 5 = .ok (.iload_n 1, 1) := by decide +kernel
theorem d_RM_in_6 : decode prog_12_method_2_code 6 = .ok (.if_icmp .ge 7, 3) := by decide +kernel
theorem d_RM_in_9 : decode prog_12_method_2_code 9 = .ok (.iconst 1, 1) := by decide +kernel
theorem d_RM_in_10 : decode prog_12_method_2_code 10 = .ok (.goto 4, 3) := by decide +kernel
theorem d_RM_lattice_0 : decode prog_12_method_3_code 0 = .ok (.bipush 12, 2) := by decide +kernel
theorem d_RM_lattice_2 : decode prog_12_method_3_code 2 = .ok (.newarray .int, 2) := by decide +kernel
theorem d_RM_lattice_4 : decode prog_12_method_3_code 4 = .ok (.dup, 1) := by decide +kernel
theorem d_RM_lattice_5 : decode prog_12_method_3_code 5 = .ok (.iconst 0, 1) := by decide +kernel
theorem d_RM_lattice_6 : decode prog_12_method_3_code 6 = .ok (.iconst 0, 1) := by decide +kernel
theorem d_RM_lattice_7 : decode prog_12_method_3_code 7 = .ok (.iastore, 1) := by decide +kernel
theorem d_RM_lattice_8 : decode prog_12_method_3_code 8 = .ok (.dup, 1) := by decide +kernel
theorem d_RM_lattice_9 : decode prog_12_method_3_code 9 = .ok (.iconst 1, 1) := by decide +kernel
theorem d_RM_lattice_10 : decode prog_12_method_3_code 10 = .ok (.iconst 1, 1) := by decide +kernel
theorem d_RM_lattice_11 : decode prog_12_method_3_code 11 = .ok (.iastore, 1) := by decide +kernel
theorem d_RM_lattice_12 : decode prog_12_method_3_code 12 = .ok (.dup, 1) := by decide +kernel
theorem d_RM_lattice_13 : decode prog_12_method_3_code 13 = .ok (.iconst 2, 1) := by decide +kernel
theorem d_RM_lattice_14 : decode prog_12_method_3_code 14 = .ok (.iconst (-1), 1) := by decide +kernel
theorem d_RM_lattice_15 : decode prog_12_method_3_code 15 = .ok (.iastore, 1) := by decide +kernel
theorem d_RM_lattice_16 : decode prog_12_method_3_code 16 = .ok (.dup, 1) := by decide +kernel
theorem d_RM_lattice_17 : decode prog_12_method_3_code 17 = .ok (.iconst 3, 1) := by decide +kernel
theorem d_RM_lattice_18 : decode prog_12_method_3_code 18 = .ok (.iconst 2, 1) := by decide +kernel
theorem d_RM_lattice_19 : decode prog_12_method_3_code 19 = .ok (.iastore, 1) := by decide +kernel
theorem d_RM_lattice_20 : decode prog_12_method_3_code 20 = .ok (.dup, 1) := by decide +kernel
theorem d_RM_lattice_21 : decode prog_12_method_3_code 21 = .ok (.iconst 4, 1) := by decide +kernel
theorem d_RM_lattice_22 : decode prog_12_method_3_code 22 = .ok (.ldc 59, 2) := by decide +kernel
theorem d_RM_lattice_24 : decode prog_12_method_3_code 24 = .ok (.iastore, 1) := by decide +kernel
theorem d_RM_lattice_25 : decode prog_12_method_3_code 25 = .ok (.dup, 1) := by decide +kernel
theorem d_RM_lattice_26 : decode prog_12_method_3_code 26 = .ok (.iconst 5, 1) := by decide +kernel
theorem d_RM_lattice_27 : decode prog_12_method_3_code 27 = .ok (.ldc 60, 2) := by decide +kernel
theorem d_RM_lattice_29 : decode prog_12_method_3_code 29 = .ok (.iastore, 1) := by decide +kernel
