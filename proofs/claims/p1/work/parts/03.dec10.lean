theorem d_K_Shrinker_reduce_42 : decode prog_8_method_2_code 42 = .ok (.aload_n 0, 1) := by decide +kernel
theorem d_K_Shrinker_reduce_43 : decode prog_8_method_2_code 43 = .ok (.aload_n 1, 1) := by decide +kernel
theorem d_K_Shrinker_reduce_44 : decode prog_8_method_2_code 44 = .ok (.iload_n 2, 1) := by decide +kernel
theorem d_K_Shrinker_reduce_45 : decode prog_8_method_2_code 45 = .ok (.invokevirtual 27, 3) := by decide +kernel
theorem d_K_Shrinker_reduce_48 : decode prog_8_method_2_code 48 = .ok (.ifCond .ne 12, 3) := by decide +kernel
theorem d_K_Shrinker_reduce_60 : decode prog_8_method_2_code 60 = .ok (.aload_n 0, 1) := by decide +kernel
theorem d_K_Shrinker_reduce_61 : decode prog_8_method_2_code 61 = .ok (.dup, 1) := by decide +kernel
theorem d_K_Shrinker_reduce_62 : decode prog_8_method_2_code 62 = .ok (.getfield 18, 3) := by decide +kernel
theorem d_K_Shrinker_reduce_65 : decode prog_8_method_2_code 65 = .ok (.iconst 1, 1) := by decide +kernel
theorem d_K_Shrinker_reduce_66 : decode prog_8_method_2_code 66 = .ok (.iadd, 1) := by decide +kernel
theorem d_K_Shrinker_reduce_67 : decode prog_8_method_2_code 67 = .ok (.putfield 18, 3) := by decide +kernel
theorem d_K_Shrinker_reduce_70 : decode prog_8_method_2_code 70 = .ok (.goto (-37), 3) := by decide +kernel
theorem d_K_Shrinker_reduce_51 : decode prog_8_method_2_code 51 = .ok (.aload_n 0, 1) := by decide +kernel
theorem d_K_Shrinker_reduce_52 : decode prog_8_method_2_code 52 = .ok (.aload_n 1, 1) := by decide +kernel
theorem d_K_Shrinker_reduce_53 : decode prog_8_method_2_code 53 = .ok (.iload_n 2, 1) := by decide +kernel
theorem d_K_Shrinker_reduce_54 : decode prog_8_method_2_code 54 = .ok (.invokevirtual 31, 3) := by decide +kernel
theorem d_K_Shrinker_reduce_57 : decode prog_8_method_2_code 57 = .ok (.ifCond .eq 16, 3) := by decide +kernel
theorem d_K_Shrinker_reduce_32 : decode prog_8_method_2_code 32 = .ok (.return_, 1) := by decide +kernel
theorem d_KitRunner_shrink_0 : decode prog_1_method_10_code 0 = .ok (.iload_n 1, 1) := by decide +kernel
theorem d_KitRunner_shrink_1 : decode prog_1_method_10_code 1 = .ok (.ifCond .lt 14, 3) := by decide +kernel
theorem d_KitRunner_shrink_15 : decode prog_1_method_10_code 15 = .ok (.ldc2_w 105, 3) := by decide +kernel
theorem d_KitRunner_shrink_18 : decode prog_1_method_10_code 18 = .ok (.lreturn, 1) := by decide +kernel
theorem d_KitRunner_shrink_4 : decode prog_1_method_10_code 4 = .ok (.iload_n 1, 1) := by decide +kernel
theorem d_KitRunner_shrink_5 : decode prog_1_method_10_code 5 = .ok (.aload_n 0, 1) := by decide +kernel
theorem d_KitRunner_shrink_6 : decode prog_1_method_10_code 6 = .ok (.getfield 40, 3) := by decide +kernel
theorem d_KitRunner_shrink_9 : decode prog_1_method_10_code 9 = .ok (.invokevirtual 131, 3) := by decide +kernel
theorem d_KitRunner_shrink_12 : decode prog_1_method_10_code 12 = .ok (.if_icmp .lt 7, 3) := by decide +kernel
theorem d_KitRunner_shrink_19 : decode prog_1_method_10_code 19 = .ok (.aload_n 0, 1) := by decide +kernel
theorem d_KitRunner_shrink_20 : decode prog_1_method_10_code 20 = .ok (.getfield 54, 3) := by decide +kernel
theorem d_KitRunner_shrink_23 : decode prog_1_method_10_code 23 = .ok (.aload_n 0, 1) := by decide +kernel
theorem d_KitRunner_shrink_24 : decode prog_1_method_10_code 24 = .ok (.getfield 10, 3) := by decide +kernel
theorem d_KitRunner_shrink_27 : decode prog_1_method_10_code 27 = .ok (.aload_n 0, 1) := by decide +kernel
theorem d_KitRunner_shrink_28 : decode prog_1_method_10_code 28 = .ok (.getfield 40, 3) := by decide +kernel
theorem d_KitRunner_shrink_31 : decode prog_1_method_10_code 31 = .ok (.iload_n 1, 1) := by decide +kernel
theorem d_KitRunner_shrink_32 : decode prog_1_method_10_code 32 = .ok (.invokevirtual 132, 3) := by decide +kernel
theorem d_KitRunner_shrink_35 : decode prog_1_method_10_code 35 = .ok (.aload_n 0, 1) := by decide +kernel
theorem d_KitRunner_shrink_36 : decode prog_1_method_10_code 36 = .ok (.getfield 40, 3) := by decide +kernel
theorem d_KitRunner_shrink_39 : decode prog_1_method_10_code 39 = .ok (.iload_n 1, 1) := by decide +kernel
theorem d_KitRunner_shrink_40 : decode prog_1_method_10_code 40 = .ok (.invokevirtual 139, 3) := by decide +kernel
theorem d_KitRunner_shrink_43 : decode prog_1_method_10_code 43 = .ok (.aload_n 0, 1) := by decide +kernel
theorem d_KitRunner_shrink_44 : decode prog_1_method_10_code 44 = .ok (.getfield 40, 3) := by decide +kernel
theorem d_KitRunner_shrink_47 : decode prog_1_method_10_code 47 = .ok (.iload_n 1, 1) := by decide +kernel
theorem d_KitRunner_shrink_48 : decode prog_1_method_10_code 48 = .ok (.invokevirtual 142, 3) := by decide +kernel
theorem d_KitRunner_shrink_51 : decode prog_1_method_10_code 51 = .ok (.invokevirtual 152, 3) := by decide +kernel
theorem d_KitRunner_shrink_54 : decode prog_1_method_10_code 54 = .ok (.iload_n 2, 1) := by decide +kernel
theorem d_KitRunner_shrink_55 : decode prog_1_method_10_code 55 = .ok (.tableswitch 52 0 2 #[25, 34, 43], 25) := by decide +kernel
theorem d_KitRunner_shrink_80 : decode prog_1_method_10_code 80 = .ok (.aload_n 0, 1) := by decide +kernel
theorem d_KitRunner_shrink_81 : decode prog_1_method_10_code 81 = .ok (.getfield 54, 3) := by decide +kernel
theorem d_KitRunner_shrink_84 : decode prog_1_method_10_code 84 = .ok (.invokevirtual 156, 3) := by decide +kernel
theorem d_KitRunner_shrink_87 : decode prog_1_method_10_code 87 = .ok (.i2l, 1) := by decide +kernel
theorem d_KitRunner_shrink_88 : decode prog_1_method_10_code 88 = .ok (.lreturn, 1) := by decide +kernel
theorem d_KitRunner_shrink_89 : decode prog_1_method_10_code 89 = .ok (.aload_n 0, 1) := by decide +kernel
theorem d_KitRunner_shrink_90 : decode prog_1_method_10_code 90 = .ok (.getfield 54, 3) := by decide +kernel
theorem d_KitRunner_shrink_93 : decode prog_1_method_10_code 93 = .ok (.invokevirtual 159, 3) := by decide +kernel
theorem d_KitRunner_shrink_96 : decode prog_1_method_10_code 96 = .ok (.i2l, 1) := by decide +kernel
theorem d_KitRunner_shrink_97 : decode prog_1_method_10_code 97 = .ok (.lreturn, 1) := by decide +kernel
theorem d_KitRunner_shrink_98 : decode prog_1_method_10_code 98 = .ok (.aload_n 0, 1) := by decide +kernel
theorem d_KitRunner_shrink_99 : decode prog_1_method_10_code 99 = .ok (.getfield 54, 3) := by decide +kernel
theorem d_KitRunner_shrink_102 : decode prog_1_method_10_code 102 = .ok (.invokevirtual 162, 3) := by decide +kernel
theorem d_KitRunner_shrink_105 : decode prog_1_method_10_code 105 = .ok (.i2l, 1) := by decide +kernel
theorem d_KitRunner_shrink_106 : decode prog_1_method_10_code 106 = .ok (.lreturn, 1) := by decide +kernel
theorem d_KitRunner_shrink_107 : decode prog_1_method_10_code 107 = .ok (.ldc2_w 105, 3) := by decide +kernel
theorem d_KitRunner_shrink_110 : decode prog_1_method_10_code 110 = .ok (.lreturn, 1) := by decide +kernel
