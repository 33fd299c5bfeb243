theorem d_KitRunner_runCase_54 : decode prog_1_method_21_code 54 = .ok (.aload_n 0, 1) := by decide +kernel
theorem d_KitRunner_runCase_55 : decode prog_1_method_21_code 55 = .ok (.getfield 33, 3) := by decide +kernel
theorem d_KitRunner_runCase_58 : decode prog_1_method_21_code 58 = .ok (.iload_n 1, 1) := by decide +kernel
theorem d_KitRunner_runCase_59 : decode prog_1_method_21_code 59 = .ok (.invokevirtual 218, 3) := by decide +kernel
theorem d_KitRunner_runCase_62 : decode prog_1_method_21_code 62 = .ok (.aload_n 0, 1) := by decide +kernel
theorem d_KitRunner_runCase_63 : decode prog_1_method_21_code 63 = .ok (.getfield 40, 3) := by decide +kernel
theorem d_KitRunner_runCase_66 : decode prog_1_method_21_code 66 = .ok (.iload_n 1, 1) := by decide +kernel
theorem d_KitRunner_runCase_67 : decode prog_1_method_21_code 67 = .ok (.iload_n 2, 1) := by decide +kernel
theorem d_KitRunner_runCase_68 : decode prog_1_method_21_code 68 = .ok (.iload_n 3, 1) := by decide +kernel
theorem d_KitRunner_runCase_69 : decode prog_1_method_21_code 69 = .ok (.lload 4, 2) := by decide +kernel
theorem d_KitRunner_runCase_71 : decode prog_1_method_21_code 71 = .ok (.lload 6, 2) := by decide +kernel
theorem d_KitRunner_runCase_73 : decode prog_1_method_21_code 73 = .ok (.invokevirtual 222, 3) := by decide +kernel
theorem d_KitRunner_runEntry_0 : decode prog_1_method_20_code 0 = .ok (.iconst 0, 1) := by decide +kernel
theorem d_KitRunner_runEntry_1 : decode prog_1_method_20_code 1 = .ok (.istore 4, 2) := by decide +kernel
theorem d_KitRunner_runEntry_3 : decode prog_1_method_20_code 3 = .ok (.iload 4, 2) := by decide +kernel
theorem d_KitRunner_runEntry_5 : decode prog_1_method_20_code 5 = .ok (.iload_n 2, 1) := by decide +kernel
theorem d_KitRunner_runEntry_6 : decode prog_1_method_20_code 6 = .ok (.if_icmp .ge 85, 3) := by decide +kernel
theorem d_KitRunner_runEntry_91 : decode prog_1_method_20_code 91 = .ok (.return_, 1) := by decide +kernel
theorem d_KitRunner_runEntry_9 : decode prog_1_method_20_code 9 = .ok (.iconst 0, 1) := by decide +kernel
theorem d_KitRunner_runEntry_10 : decode prog_1_method_20_code 10 = .ok (.istore 5, 2) := by decide +kernel
theorem d_KitRunner_runEntry_12 : decode prog_1_method_20_code 12 = .ok (.iload 5, 2) := by decide +kernel
theorem d_KitRunner_runEntry_14 : decode prog_1_method_20_code 14 = .ok (.iload_n 2, 1) := by decide +kernel
theorem d_KitRunner_runEntry_15 : decode prog_1_method_20_code 15 = .ok (.if_icmp .ge 70, 3) := by decide +kernel
theorem d_KitRunner_runEntry_85 : decode prog_1_method_20_code 85 = .ok (.iinc 4 1, 3) := by decide +kernel
theorem d_KitRunner_runEntry_88 : decode prog_1_method_20_code 88 = .ok (.goto (-85), 3) := by decide +kernel
theorem d_KitRunner_runEntry_18 : decode prog_1_method_20_code 18 = .ok (.aload_n 0, 1) := by decide +kernel
theorem d_KitRunner_runEntry_19 : decode prog_1_method_20_code 19 = .ok (.getfield 19, 3) := by decide +kernel
theorem d_KitRunner_runEntry_22 : decode prog_1_method_20_code 22 = .ok (.iload_n 1, 1) := by decide +kernel
theorem d_KitRunner_runEntry_23 : decode prog_1_method_20_code 23 = .ok (.getstatic 135, 3) := by decide +kernel
theorem d_KitRunner_runEntry_26 : decode prog_1_method_20_code 26 = .ok (.iload 4, 2) := by decide +kernel
theorem d_KitRunner_runEntry_28 : decode prog_1_method_20_code 28 = .ok (.iaload, 1) := by decide +kernel
theorem d_KitRunner_runEntry_29 : decode prog_1_method_20_code 29 = .ok (.getstatic 135, 3) := by decide +kernel
theorem d_KitRunner_runEntry_32 : decode prog_1_method_20_code 32 = .ok (.iload 5, 2) := by decide +kernel
theorem d_KitRunner_runEntry_34 : decode prog_1_method_20_code 34 = .ok (.iaload, 1) := by decide +kernel
theorem d_KitRunner_runEntry_35 : decode prog_1_method_20_code 35 = .ok (.invokevirtual 201, 3) := by decide +kernel
theorem d_KitRunner_runEntry_38 : decode prog_1_method_20_code 38 = .ok (.ifCond .eq 13, 3) := by decide +kernel
theorem d_KitRunner_runEntry_51 : decode prog_1_method_20_code 51 = .ok (.aload_n 0, 1) := by decide +kernel
theorem d_KitRunner_runEntry_52 : decode prog_1_method_20_code 52 = .ok (.getfield 26, 3) := by decide +kernel
theorem d_KitRunner_runEntry_55 : decode prog_1_method_20_code 55 = .ok (.iload_n 1, 1) := by decide +kernel
theorem d_KitRunner_runEntry_56 : decode prog_1_method_20_code 56 = .ok (.iload 4, 2) := by decide +kernel
theorem d_KitRunner_runEntry_58 : decode prog_1_method_20_code 58 = .ok (.iload 5, 2) := by decide +kernel
theorem d_KitRunner_runEntry_60 : decode prog_1_method_20_code 60 = .ok (.invokevirtual 207, 3) := by decide +kernel
theorem d_KitRunner_runEntry_63 : decode prog_1_method_20_code 63 = .ok (.ifCond .ne 7, 3) := by decide +kernel
theorem d_KitRunner_runEntry_70 : decode prog_1_method_20_code 70 = .ok (.aload_n 0, 1) := by decide +kernel
theorem d_KitRunner_runEntry_71 : decode prog_1_method_20_code 71 = .ok (.iload_n 1, 1) := by decide +kernel
theorem d_KitRunner_runEntry_72 : decode prog_1_method_20_code 72 = .ok (.iload 4, 2) := by decide +kernel
theorem d_KitRunner_runEntry_74 : decode prog_1_method_20_code 74 = .ok (.iload 5, 2) := by decide +kernel
theorem d_KitRunner_runEntry_76 : decode prog_1_method_20_code 76 = .ok (.invokevirtual 210, 3) := by decide +kernel
theorem d_KitRunner_runEntry_79 : decode prog_1_method_20_code 79 = .ok (.iinc 5 1, 3) := by decide +kernel
theorem d_KitRunner_runEntry_82 : decode prog_1_method_20_code 82 = .ok (.goto (-70), 3) := by decide +kernel
theorem d_KitRunner_runEntry_66 : decode prog_1_method_20_code 66 = .ok (.iload_n 3, 1) := by decide +kernel
theorem d_KitRunner_runEntry_67 : decode prog_1_method_20_code 67 = .ok (.ifCond .ne 12, 3) := by decide +kernel
theorem d_KitRunner_runEntry_41 : decode prog_1_method_20_code 41 = .ok (.aload_n 0, 1) := by decide +kernel
theorem d_KitRunner_runEntry_42 : decode prog_1_method_20_code 42 = .ok (.getfield 33, 3) := by decide +kernel
theorem d_KitRunner_runEntry_45 : decode prog_1_method_20_code 45 = .ok (.invokevirtual 204, 3) := by decide +kernel
theorem d_KitRunner_runEntry_48 : decode prog_1_method_20_code 48 = .ok (.goto 31, 3) := by decide +kernel
theorem d_KitRunner_forgetLatestRun_0 : decode prog_1_method_19_code 0 = .ok (.aload_n 0, 1) := by decide +kernel
theorem d_KitRunner_forgetLatestRun_1 : decode prog_1_method_19_code 1 = .ok (.getfield 26, 3) := by decide +kernel
theorem d_KitRunner_forgetLatestRun_4 : decode prog_1_method_19_code 4 = .ok (.invokevirtual 195, 3) := by decide +kernel
theorem d_KitRunner_forgetLatestRun_7 : decode prog_1_method_19_code 7 = .ok (.aload_n 0, 1) := by decide +kernel
theorem d_KitRunner_forgetLatestRun_8 : decode prog_1_method_19_code 8 = .ok (.getfield 33, 3) := by decide +kernel
theorem d_KitRunner_forgetLatestRun_11 : decode prog_1_method_19_code 11 = .ok (.invokevirtual 198, 3) := by decide +kernel
theorem d_KitRunner_forgetLatestRun_14 : decode prog_1_method_19_code 14 = .ok (.aload_n 0, 1) := by decide +kernel
theorem d_KitRunner_forgetLatestRun_15 : decode prog_1_method_19_code 15 = .ok (.getfield 40, 3) := by decide +kernel
theorem d_KitRunner_forgetLatestRun_18 : decode prog_1_method_19_code 18 = .ok (.invokevirtual 199, 3) := by decide +kernel
theorem d_KitRunner_forgetLatestRun_21 : decode prog_1_method_19_code 21 = .ok (.aload_n 0, 1) := by decide +kernel
theorem d_KitRunner_forgetLatestRun_22 : decode prog_1_method_19_code 22 = .ok (.getfield 47, 3) := by decide +kernel
theorem d_KitRunner_forgetLatestRun_25 : decode prog_1_method_19_code 25 = .ok (.invokevirtual 200, 3) := by decide +kernel
theorem d_KitRunner_forgetLatestRun_28 : decode prog_1_method_19_code 28 = .ok (.return_, 1) := by decide +kernel
theorem d_K_Shrinker_moveA_0 : decode prog_8_method_6_code 0 = .ok (.iconst 0, 1) := by decide +kernel
theorem d_K_Shrinker_moveA_1 : decode prog_8_method_6_code 1 = .ok (.istore_n 3, 1) := by decide +kernel
theorem d_K_Shrinker_moveA_2 : decode prog_8_method_6_code 2 = .ok (.iload_n 3, 1) := by decide +kernel
theorem d_K_Shrinker_moveA_3 : decode prog_8_method_6_code 3 = .ok (.aload_n 0, 1) := by decide +kernel
theorem d_K_Shrinker_moveA_4 : decode prog_8_method_6_code 4 = .ok (.getfield 9, 3) := by decide +kernel
theorem d_K_Shrinker_moveA_7 : decode prog_8_method_6_code 7 = .ok (.if_icmp .ge 29, 3) := by decide +kernel
theorem d_K_Shrinker_moveA_36 : decode prog_8_method_6_code 36 = .ok (.iconst 0, 1) := by decide +kernel
theorem d_K_Shrinker_moveA_37 : decode prog_8_method_6_code 37 = .ok (.ireturn, 1) := by decide +kernel
theorem d_K_Shrinker_moveA_10 : decode prog_8_method_6_code 10 = .ok (.aload_n 1, 1) := by decide +kernel
theorem d_K_Shrinker_moveA_11 : decode prog_8_method_6_code 11 = .ok (.iload_n 2, 1) := by decide +kernel
theorem d_K_Shrinker_moveA_12 : decode prog_8_method_6_code 12 = .ok (.iload_n 3, 1) := by decide +kernel
theorem d_K_Shrinker_moveA_13 : decode prog_8_method_6_code 13 = .ok (.aload_n 0, 1) := by decide +kernel
theorem d_K_Shrinker_moveA_14 : decode prog_8_method_6_code 14 = .ok (.getfield 15, 3) := by decide +kernel
theorem d_K_Shrinker_moveA_17 : decode prog_8_method_6_code 17 = .ok (.invokevirtual 21, 3) := by decide +kernel
theorem d_K_Shrinker_moveA_20 : decode prog_8_method_6_code 20 = .ok (.ifCond .eq 10, 3) := by decide +kernel
theorem d_K_Shrinker_moveA_30 : decode prog_8_method_6_code 30 = .ok (.iinc 3 1, 3) := by decide +kernel
theorem d_K_Shrinker_moveA_33 : decode prog_8_method_6_code 33 = .ok (.goto (-31), 3) := by decide +kernel
theorem d_K_Shrinker_moveA_23 : decode prog_8_method_6_code 23 = .ok (.aload_n 0, 1) := by decide +kernel
theorem d_K_Shrinker_moveA_24 : decode prog_8_method_6_code 24 = .ok (.iload_n 3, 1) := by decide +kernel
theorem d_K_Shrinker_moveA_25 : decode prog_8_method_6_code 25 = .ok (.putfield 9, 3) := by decide +kernel
theorem d_K_Shrinker_moveA_28 : decode prog_8_method_6_code 28 = .ok (.iconst 1, 1) := by decide +kernel
theorem d_K_Shrinker_moveA_29 : decode prog_8_method_6_code 29 = .ok (.ireturn, 1) := by decide +kernel
theorem d_K_Shrinker_moveB_0 : decode prog_8_method_7_code 0 = .ok (.iconst 0, 1) := by decide +kernel
theorem d_K_Shrinker_moveB_1 : decode prog_8_method_7_code 1 = .ok (.istore_n 3, 1) := by decide +kernel
theorem d_K_Shrinker_moveB_2 : decode prog_8_method_7_code 2 = .ok (.iload_n 3, 1) := by decide +kernel
theorem d_K_Shrinker_moveB_3 : decode prog_8_method_7_code 3 = .ok (.aload_n 0, 1) := by decide +kernel
theorem d_K_Shrinker_moveB_4 : decode prog_8_method_7_code 4 = .ok (.getfield 15, 3) := by decide +kernel
theorem d_K_Shrinker_moveB_7 : decode prog_8_method_7_code 7 = .ok (.if_icmp .ge 29, 3) := by decide +kernel
theorem d_K_Shrinker_moveB_36 : decode prog_8_method_7_code 36 = .ok (.iconst 0, 1) := by decide +kernel
theorem d_K_Shrinker_moveB_37 : decode prog_8_method_7_code 37 = .ok (.ireturn, 1) := by decide +kernel
theorem d_K_Shrinker_moveB_10 : decode prog_8_method_7_code 10 = .ok (.aload_n 1, 1) := by decide +kernel
theorem d_K_Shrinker_moveB_11 : decode prog_8_method_7_code 11 = .ok (.iload_n 2, 1) := by decide +kernel
theorem d_K_Shrinker_moveB_12 : decode prog_8_method_7_code 12 = .ok (.aload_n 0, 1) := by decide +kernel
theorem d_K_Shrinker_moveB_13 : decode prog_8_method_7_code 13 = .ok (.getfield 9, 3) := by decide +kernel
theorem d_K_Shrinker_moveB_16 : decode prog_8_method_7_code 16 = .ok (.iload_n 3, 1) := by decide +kernel
theorem d_K_Shrinker_moveB_17 : decode prog_8_method_7_code 17 = .ok (.invokevirtual 21, 3) := by decide +kernel
theorem d_K_Shrinker_moveB_20 : decode prog_8_method_7_code 20 = .ok (.ifCond .eq 10, 3) := by decide +kernel
theorem d_K_Shrinker_moveB_30 : decode prog_8_method_7_code 30 = .ok (.iinc 3 1, 3) := by decide +kernel
theorem d_K_Shrinker_moveB_33 : decode prog_8_method_7_code 33 = .ok (.goto (-31), 3) := by decide +kernel
theorem d_K_Shrinker_moveB_23 : decode prog_8_method_7_code 23 = .ok (.aload_n 0, 1) := by decide +kernel
theorem d_K_Shrinker_moveB_24 : decode prog_8_method_7_code 24 = .ok (.iload_n 3, 1) := by decide +kernel
theorem d_K_Shrinker_moveB_25 : decode prog_8_method_7_code 25 = .ok (.putfield 15, 3) := by decide +kernel
theorem d_K_Shrinker_moveB_28 : decode prog_8_method_7_code 28 = .ok (.iconst 1, 1) := by decide +kernel
theorem d_K_Shrinker_moveB_29 : decode prog_8_method_7_code 29 = .ok (.ireturn, 1) := by decide +kernel
theorem d_K_EntryPoints_nameOf_0 : decode prog_2_method_2_code 0 = .ok (.iload_n 0, 1) := by decide +kernel
theorem d_K_EntryPoints_nameOf_1 : decode prog_2_method_2_code 1 = .ok (.tableswitch 120 0 14 #[75, 78, 81, 84, 87, 90, 93, 96, 99, 102, 105, 108, 111, 114, 117], 75) := by decide +kernel
theorem d_K_EntryPoints_nameOf_76 : decode prog_2_method_2_code 76 = .ok (.ldc 7, 2) := by decide +kernel
theorem d_K_EntryPoints_nameOf_78 : decode prog_2_method_2_code 78 = .ok (.areturn, 1) := by decide +kernel
theorem d_K_EntryPoints_nameOf_79 : decode prog_2_method_2_code 79 = .ok (.ldc 9, 2) := by decide +kernel
theorem d_K_EntryPoints_nameOf_81 : decode prog_2_method_2_code 81 = .ok (.areturn, 1) := by decide +kernel
theorem d_K_EntryPoints_nameOf_82 : decode prog_2_method_2_code 82 = .ok (.ldc 11, 2) := by decide +kernel
theorem d_K_EntryPoints_nameOf_84 : decode prog_2_method_2_code 84 = .ok (.areturn, 1) := by decide +kernel
theorem d_K_EntryPoints_nameOf_85 : decode prog_2_method_2_code 85 = .ok (.ldc 13, 2) := by decide +kernel
theorem d_K_EntryPoints_nameOf_87 : decode prog_2_method_2_code 87 = .ok (.areturn, 1) := by decide +kernel
theorem d_K_EntryPoints_nameOf_88 : decode prog_2_method_2_code 88 = .ok (.ldc 15, 2) := by decide +kernel
theorem d_K_EntryPoints_nameOf_90 : decode prog_2_method_2_code 90 = .ok (.areturn, 1) := by decide +kernel
theorem d_K_EntryPoints_nameOf_91 : decode prog_2_method_2_code 91 = .ok (.ldc 17, 2) := by decide +kernel
theorem d_K_EntryPoints_nameOf_93 : decode prog_2_method_2_code 93 = .ok (.areturn, 1) := by decide +kernel
theorem d_K_EntryPoints_nameOf_94 : decode prog_2_method_2_code 94 = .ok (.ldc 19, 2) := by decide +kernel
theorem d_K_EntryPoints_nameOf_96 : decode prog_2_method_2_code 96 = .ok (.areturn, 1) := by decide +kernel
theorem d_K_EntryPoints_nameOf_97 : decode prog_2_method_2_code 97 = .ok (.ldc 21, 2) := by decide +kernel
theorem d_K_EntryPoints_nameOf_99 : decode prog_2_method_2_code 99 = .ok (.areturn, 1) := by decide +kernel
theorem d_K_EntryPoints_nameOf_100 : decode prog_2_method_2_code 100 = .ok (.ldc 23, 2) := by decide +kernel
theorem d_K_EntryPoints_nameOf_102 : decode prog_2_method_2_code 102 = .ok (.areturn, 1) := by decide +kernel
theorem d_K_EntryPoints_nameOf_103 : decode prog_2_method_2_code 103 = .ok (.ldc 25, 2) := by decide +kernel
theorem d_K_EntryPoints_nameOf_105 : decode prog_2_method_2_code 105 = .ok (.areturn, 1) := by decide +kernel
theorem d_K_EntryPoints_nameOf_106 : decode prog_2_method_2_code 106 = .ok (.ldc 27, 2) := by decide +kernel
theorem d_K_EntryPoints_nameOf_108 : decode prog_2_method_2_code 108 = .ok (.areturn, 1) := by decide +kernel
theorem d_K_EntryPoints_nameOf_109 : decode prog_2_method_2_code 109 = .ok (.ldc 29, 2) := by decide +kernel
theorem d_K_EntryPoints_nameOf_111 : decode prog_2_method_2_code 111 = .ok (.areturn, 1) := by decide +kernel
theorem d_K_EntryPoints_nameOf_112 : decode prog_2_method_2_code 112 = .ok (.ldc 31, 2) := by decide +kernel
theorem d_K_EntryPoints_nameOf_114 : decode prog_2_method_2_code 114 = .ok (.areturn, 1) := by decide +kernel
theorem d_K_EntryPoints_nameOf_115 : decode prog_2_method_2_code 115 = .ok (.ldc 33, 2) := by decide +kernel
theorem d_K_EntryPoints_nameOf_117 : decode prog_2_method_2_code 117 = .ok (.areturn, 1) := by decide +kernel
theorem d_K_EntryPoints_nameOf_118 : decode prog_2_method_2_code 118 = .ok (.ldc 35, 2) := by decide +kernel
theorem d_K_EntryPoints_nameOf_120 : decode prog_2_method_2_code 120 = .ok (.areturn, 1) := by decide +kernel
theorem d_K_EntryPoints_nameOf_121 : decode prog_2_method_2_code 121 = .ok (.ldc 37, 2) := by decide +kernel
theorem d_K_EntryPoints_nameOf_123 : decode prog_2_method_2_code 123 = .ok (.areturn, 1) := by decide +kernel
theorem d_KitRunner_packedText_0 : decode prog_1_method_18_code 0 = .ok (.lconst 0, 1) := by decide +kernel
theorem d_KitRunner_packedText_1 : decode prog_1_method_18_code 1 = .ok (.lstore_n 1, 1) := by decide +kernel
theorem d_KitRunner_packedText_2 : decode prog_1_method_18_code 2 = .ok (.iconst 0, 1) := by decide +kernel
theorem d_KitRunner_packedText_3 : decode prog_1_method_18_code 3 = .ok (.istore_n 3, 1) := by decide +kernel
theorem d_KitRunner_packedText_4 : decode prog_1_method_18_code 4 = .ok (.iload_n 3, 1) := by decide +kernel
theorem d_KitRunner_packedText_5 : decode prog_1_method_18_code 5 = .ok (.aload_n 0, 1) := by decide +kernel
theorem d_KitRunner_packedText_6 : decode prog_1_method_18_code 6 = .ok (.invokevirtual 188, 3) := by decide +kernel
theorem d_KitRunner_packedText_9 : decode prog_1_method_18_code 9 = .ok (.if_icmp .ge 21, 3) := by decide +kernel
theorem d_KitRunner_packedText_30 : decode prog_1_method_18_code 30 = .ok (.lload_n 1, 1) := by decide +kernel
theorem d_KitRunner_packedText_31 : decode prog_1_method_18_code 31 = .ok (.lreturn, 1) := by decide +kernel
theorem d_KitRunner_packedText_12 : decode prog_1_method_18_code 12 = .ok (.lload_n 1, 1) := by decide +kernel
theorem d_KitRunner_packedText_13 : decode prog_1_method_18_code 13 = .ok (.bipush 8, 2) := by decide +kernel
theorem d_KitRunner_packedText_15 : decode prog_1_method_18_code 15 = .ok (.lshl, 1) := by decide +kernel
