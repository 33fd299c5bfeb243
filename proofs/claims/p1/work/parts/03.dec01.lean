theorem d_K_EntryPoints_sizeOf_17 : decode prog_2_method_4_code 17 = .ok (.goto 5, 3) := by decide +kernel
theorem d_K_EntryPoints_sizeOf_4 : decode prog_2_method_4_code 4 = .ok (.ldc2_w 79, 3) := by decide +kernel
theorem d_K_EntryPoints_sizeOf_7 : decode prog_2_method_4_code 7 = .ok (.lreturn, 1) := by decide +kernel
theorem d_K_Machine_changed_0 : decode prog_5_method_8_code 0 = .ok (.iload_n 0, 1) := by decide +kernel
theorem d_K_Machine_changed_1 : decode prog_5_method_8_code 1 = .ok (.tableswitch 62 0 3 #[31, 37, 41, 44], 31) := by decide +kernel
theorem d_K_Machine_changed_32 : decode prog_5_method_8_code 32 = .ok (.lload_n 2, 1) := by decide +kernel
theorem d_K_Machine_changed_33 : decode prog_5_method_8_code 33 = .ok (.l2i, 1) := by decide +kernel
theorem d_K_Machine_changed_34 : decode prog_5_method_8_code 34 = .ok (.iconst 1, 1) := by decide +kernel
theorem d_K_Machine_changed_35 : decode prog_5_method_8_code 35 = .ok (.iadd, 1) := by decide +kernel
theorem d_K_Machine_changed_36 : decode prog_5_method_8_code 36 = .ok (.i2l, 1) := by decide +kernel
theorem d_K_Machine_changed_37 : decode prog_5_method_8_code 37 = .ok (.lreturn, 1) := by decide +kernel
theorem d_K_Machine_changed_38 : decode prog_5_method_8_code 38 = .ok (.ldc2_w 51, 3) := by decide +kernel
theorem d_K_Machine_changed_41 : decode prog_5_method_8_code 41 = .ok (.lreturn, 1) := by decide +kernel
theorem d_K_Machine_changed_42 : decode prog_5_method_8_code 42 = .ok (.iload_n 1, 1) := by decide +kernel
theorem d_K_Machine_changed_43 : decode prog_5_method_8_code 43 = .ok (.i2l, 1) := by decide +kernel
theorem d_K_Machine_changed_44 : decode prog_5_method_8_code 44 = .ok (.lreturn, 1) := by decide +kernel
theorem d_K_Machine_changed_45 : decode prog_5_method_8_code 45 = .ok (.lload_n 2, 1) := by decide +kernel
theorem d_K_Machine_changed_46 : decode prog_5_method_8_code 46 = .ok (.ldc2_w 53, 3) := by decide +kernel
theorem d_K_Machine_changed_49 : decode prog_5_method_8_code 49 = .ok (.lcmp, 1) := by decide +kernel
theorem d_K_Machine_changed_50 : decode prog_5_method_8_code 50 = .ok (.ifCond .ne 9, 3) := by decide +kernel
theorem d_K_Machine_changed_59 : decode prog_5_method_8_code 59 = .ok (.ldc2_w 53, 3) := by decide +kernel
theorem d_K_Machine_changed_62 : decode prog_5_method_8_code 62 = .ok (.lreturn, 1) := by decide +kernel
theorem d_K_Machine_changed_53 : decode prog_5_method_8_code 53 = .ok (.ldc2_w 55, 3) := by decide +kernel
theorem d_K_Machine_changed_56 : decode prog_5_method_8_code 56 = .ok (.goto 6, 3) := by decide +kernel
theorem d_K_Machine_changed_63 : decode prog_5_method_8_code 63 = .ok (.lload_n 2, 1) := by decide +kernel
theorem d_K_Machine_changed_64 : decode prog_5_method_8_code 64 = .ok (.lconst 1, 1) := by decide +kernel
theorem d_K_Machine_changed_65 : decode prog_5_method_8_code 65 = .ok (.lxor, 1) := by decide +kernel
theorem d_K_Machine_changed_66 : decode prog_5_method_8_code 66 = .ok (.lreturn, 1) := by decide +kernel
theorem d_K_Machine_applies_0 : decode prog_5_method_7_code 0 = .ok (.lload 4, 2) := by decide +kernel
theorem d_K_Machine_applies_2 : decode prog_5_method_7_code 2 = .ok (.invokestatic 45, 3) := by decide +kernel
theorem d_K_Machine_applies_5 : decode prog_5_method_7_code 5 = .ok (.istore 6, 2) := by decide +kernel
theorem d_K_Machine_applies_7 : decode prog_5_method_7_code 7 = .ok (.iload_n 0, 1) := by decide +kernel
theorem d_K_Machine_applies_8 : decode prog_5_method_7_code 8 = .ok (.tableswitch 70 0 3 #[32, 48, 64, 67], 32) := by decide +kernel
theorem d_K_Machine_applies_40 : decode prog_5_method_7_code 40 = .ok (.iload 6, 2) := by decide +kernel
theorem d_K_Machine_applies_42 : decode prog_5_method_7_code 42 = .ok (.ifCond .ne 12, 3) := by decide +kernel
theorem d_K_Machine_applies_54 : decode prog_5_method_7_code 54 = .ok (.iconst 0, 1) := by decide +kernel
theorem d_K_Machine_applies_55 : decode prog_5_method_7_code 55 = .ok (.ireturn, 1) := by decide +kernel
theorem d_K_Machine_applies_45 : decode prog_5_method_7_code 45 = .ok (.iload_n 2, 1) := by decide +kernel
theorem d_K_Machine_applies_46 : decode prog_5_method_7_code 46 = .ok (.iload_n 1, 1) := by decide +kernel
theorem d_K_Machine_applies_47 : decode prog_5_method_7_code 47 = .ok (.if_icmp .ne 7, 3) := by decide +kernel
theorem d_K_Machine_applies_50 : decode prog_5_method_7_code 50 = .ok (.iconst 1, 1) := by decide +kernel
theorem d_K_Machine_applies_51 : decode prog_5_method_7_code 51 = .ok (.goto 4, 3) := by decide +kernel
theorem d_K_Machine_applies_56 : decode prog_5_method_7_code 56 = .ok (.iload 6, 2) := by decide +kernel
theorem d_K_Machine_applies_58 : decode prog_5_method_7_code 58 = .ok (.ifCond .ne 12, 3) := by decide +kernel
theorem d_K_Machine_applies_70 : decode prog_5_method_7_code 70 = .ok (.iconst 0, 1) := by decide +kernel
theorem d_K_Machine_applies_71 : decode prog_5_method_7_code 71 = .ok (.ireturn, 1) := by decide +kernel
theorem d_K_Machine_applies_61 : decode prog_5_method_7_code 61 = .ok (.iload_n 3, 1) := by decide +kernel
theorem d_K_Machine_applies_62 : decode prog_5_method_7_code 62 = .ok (.iload_n 1, 1) := by decide +kernel
theorem d_K_Machine_applies_63 : decode prog_5_method_7_code 63 = .ok (.if_icmp .ne 7, 3) := by decide +kernel
theorem d_K_Machine_applies_66 : decode prog_5_method_7_code 66 = .ok (.iconst 1, 1) := by decide +kernel
theorem d_K_Machine_applies_67 : decode prog_5_method_7_code 67 = .ok (.goto 4, 3) := by decide +kernel
theorem d_K_Machine_applies_72 : decode prog_5_method_7_code 72 = .ok (.iload 6, 2) := by decide +kernel
theorem d_K_Machine_applies_74 : decode prog_5_method_7_code 74 = .ok (.ireturn, 1) := by decide +kernel
theorem d_K_Machine_applies_75 : decode prog_5_method_7_code 75 = .ok (.iload 6, 2) := by decide +kernel
theorem d_K_Machine_applies_77 : decode prog_5_method_7_code 77 = .ok (.ireturn, 1) := by decide +kernel
theorem d_K_Machine_applies_78 : decode prog_5_method_7_code 78 = .ok (.iload 6, 2) := by decide +kernel
theorem d_K_Machine_applies_80 : decode prog_5_method_7_code 80 = .ok (.ifCond .ne 15, 3) := by decide +kernel
theorem d_K_Machine_applies_95 : decode prog_5_method_7_code 95 = .ok (.iconst 0, 1) := by decide +kernel
theorem d_K_Machine_applies_96 : decode prog_5_method_7_code 96 = .ok (.ireturn, 1) := by decide +kernel
theorem d_K_Machine_applies_83 : decode prog_5_method_7_code 83 = .ok (.lload 4, 2) := by decide +kernel
theorem d_K_Machine_applies_85 : decode prog_5_method_7_code 85 = .ok (.iload_n 1, 1) := by decide +kernel
theorem d_K_Machine_applies_86 : decode prog_5_method_7_code 86 = .ok (.i2l, 1) := by decide +kernel
theorem d_K_Machine_applies_87 : decode prog_5_method_7_code 87 = .ok (.lcmp, 1) := by decide +kernel
theorem d_K_Machine_applies_88 : decode prog_5_method_7_code 88 = .ok (.ifCond .le 7, 3) := by decide +kernel
theorem d_K_Machine_applies_91 : decode prog_5_method_7_code 91 = .ok (.iconst 1, 1) := by decide +kernel
theorem d_K_Machine_applies_92 : decode prog_5_method_7_code 92 = .ok (.goto 4, 3) := by decide +kernel
theorem d_K_Tally_markOf_0 : decode prog_9_method_14_code 0 = .ok (.lload_n 0, 1) := by decide +kernel
theorem d_K_Tally_markOf_1 : decode prog_9_method_14_code 1 = .ok (.invokestatic 45, 3) := by decide +kernel
theorem d_K_Tally_markOf_4 : decode prog_9_method_14_code 4 = .ok (.ifCond .eq 12, 3) := by decide +kernel
theorem d_K_Tally_markOf_16 : decode prog_9_method_14_code 16 = .ok (.lload_n 0, 1) := by decide +kernel
theorem d_K_Tally_markOf_17 : decode prog_9_method_14_code 17 = .ok (.lconst 0, 1) := by decide +kernel
theorem d_K_Tally_markOf_18 : decode prog_9_method_14_code 18 = .ok (.lcmp, 1) := by decide +kernel
theorem d_K_Tally_markOf_19 : decode prog_9_method_14_code 19 = .ok (.ifCond .ge 7, 3) := by decide +kernel
theorem d_K_Tally_markOf_26 : decode prog_9_method_14_code 26 = .ok (.lload_n 0, 1) := by decide +kernel
theorem d_K_Tally_markOf_27 : decode prog_9_method_14_code 27 = .ok (.lconst 0, 1) := by decide +kernel
theorem d_K_Tally_markOf_28 : decode prog_9_method_14_code 28 = .ok (.lcmp, 1) := by decide +kernel
theorem d_K_Tally_markOf_29 : decode prog_9_method_14_code 29 = .ok (.ifCond .ne 7, 3) := by decide +kernel
theorem d_K_Tally_markOf_36 : decode prog_9_method_14_code 36 = .ok (.iconst 4, 1) := by decide +kernel
theorem d_K_Tally_markOf_37 : decode prog_9_method_14_code 37 = .ok (.ireturn, 1) := by decide +kernel
theorem d_K_Tally_markOf_32 : decode prog_9_method_14_code 32 = .ok (.iconst 2, 1) := by decide +kernel
theorem d_K_Tally_markOf_33 : decode prog_9_method_14_code 33 = .ok (.goto 4, 3) := by decide +kernel
theorem d_K_Tally_markOf_22 : decode prog_9_method_14_code 22 = .ok (.iconst 1, 1) := by decide +kernel
theorem d_K_Tally_markOf_23 : decode prog_9_method_14_code 23 = .ok (.goto 14, 3) := by decide +kernel
theorem d_K_Tally_markOf_7 : decode prog_9_method_14_code 7 = .ok (.iconst 4, 1) := by decide +kernel
theorem d_K_Tally_markOf_8 : decode prog_9_method_14_code 8 = .ok (.lload_n 0, 1) := by decide +kernel
theorem d_K_Tally_markOf_9 : decode prog_9_method_14_code 9 = .ok (.ldc2_w 49, 3) := by decide +kernel
theorem d_K_Tally_markOf_12 : decode prog_9_method_14_code 12 = .ok (.ldiv, 1) := by decide +kernel
theorem d_K_Tally_markOf_13 : decode prog_9_method_14_code 13 = .ok (.l2i, 1) := by decide +kernel
theorem d_K_Tally_markOf_14 : decode prog_9_method_14_code 14 = .ok (.ishl, 1) := by decide +kernel
theorem d_K_Tally_markOf_15 : decode prog_9_method_14_code 15 = .ok (.ireturn, 1) := by decide +kernel
theorem d_K_Machine_addFault_0 : decode prog_5_method_2_code 0 = .ok (.aload_n 0, 1) := by decide +kernel
theorem d_K_Machine_addFault_1 : decode prog_5_method_2_code 1 = .ok (.getfield 21, 3) := by decide +kernel
theorem d_K_Machine_addFault_4 : decode prog_5_method_2_code 4 = .ok (.iconst 4, 1) := by decide +kernel
theorem d_K_Machine_addFault_5 : decode prog_5_method_2_code 5 = .ok (.if_icmp .lt 5, 3) := by decide +kernel
theorem d_K_Machine_addFault_10 : decode prog_5_method_2_code 10 = .ok (.aload_n 0, 1) := by decide +kernel
theorem d_K_Machine_addFault_11 : decode prog_5_method_2_code 11 = .ok (.getfield 9, 3) := by decide +kernel
theorem d_K_Machine_addFault_14 : decode prog_5_method_2_code 14 = .ok (.aload_n 0, 1) := by decide +kernel
theorem d_K_Machine_addFault_15 : decode prog_5_method_2_code 15 = .ok (.getfield 21, 3) := by decide +kernel
theorem d_K_Machine_addFault_18 : decode prog_5_method_2_code 18 = .ok (.iload_n 1, 1) := by decide +kernel
theorem d_K_Machine_addFault_19 : decode prog_5_method_2_code 19 = .ok (.iastore, 1) := by decide +kernel
theorem d_K_Machine_addFault_20 : decode prog_5_method_2_code 20 = .ok (.aload_n 0, 1) := by decide +kernel
theorem d_K_Machine_addFault_21 : decode prog_5_method_2_code 21 = .ok (.getfield 15, 3) := by decide +kernel
theorem d_K_Machine_addFault_24 : decode prog_5_method_2_code 24 = .ok (.aload_n 0, 1) := by decide +kernel
theorem d_K_Machine_addFault_25 : decode prog_5_method_2_code 25 = .ok (.getfield 21, 3) := by decide +kernel
theorem d_K_Machine_addFault_28 : decode prog_5_method_2_code 28 = .ok (.iload_n 2, 1) := by decide +kernel
theorem d_K_Machine_addFault_29 : decode prog_5_method_2_code 29 = .ok (.iastore, 1) := by decide +kernel
theorem d_K_Machine_addFault_30 : decode prog_5_method_2_code 30 = .ok (.aload_n 0, 1) := by decide +kernel
theorem d_K_Machine_addFault_31 : decode prog_5_method_2_code 31 = .ok (.getfield 18, 3) := by decide +kernel
theorem d_K_Machine_addFault_34 : decode prog_5_method_2_code 34 = .ok (.aload_n 0, 1) := by decide +kernel
theorem d_K_Machine_addFault_35 : decode prog_5_method_2_code 35 = .ok (.getfield 21, 3) := by decide +kernel
theorem d_K_Machine_addFault_38 : decode prog_5_method_2_code 38 = .ok (.iload_n 3, 1) := by decide +kernel
theorem d_K_Machine_addFault_39 : decode prog_5_method_2_code 39 = .ok (.iastore, 1) := by decide +kernel
theorem d_K_Machine_addFault_40 : decode prog_5_method_2_code 40 = .ok (.aload_n 0, 1) := by decide +kernel
theorem d_K_Machine_addFault_41 : decode prog_5_method_2_code 41 = .ok (.dup, 1) := by decide +kernel
theorem d_K_Machine_addFault_42 : decode prog_5_method_2_code 42 = .ok (.getfield 21, 3) := by decide +kernel
theorem d_K_Machine_addFault_45 : decode prog_5_method_2_code 45 = .ok (.iconst 1, 1) := by decide +kernel
theorem d_K_Machine_addFault_46 : decode prog_5_method_2_code 46 = .ok (.iadd, 1) := by decide +kernel
theorem d_K_Machine_addFault_47 : decode prog_5_method_2_code 47 = .ok (.putfield 21, 3) := by decide +kernel
theorem d_K_Machine_addFault_50 : decode prog_5_method_2_code 50 = .ok (.iconst 1, 1) := by decide +kernel
theorem d_K_Machine_addFault_51 : decode prog_5_method_2_code 51 = .ok (.ireturn, 1) := by decide +kernel
theorem d_K_Machine_addFault_8 : decode prog_5_method_2_code 8 = .ok (.iconst 0, 1) := by decide +kernel
theorem d_K_Machine_addFault_9 : decode prog_5_method_2_code 9 = .ok (.ireturn, 1) := by decide +kernel
theorem d_K_Machine_removeFaults_0 : decode prog_5_method_3_code 0 = .ok (.aload_n 0, 1) := by decide +kernel
theorem d_K_Machine_removeFaults_1 : decode prog_5_method_3_code 1 = .ok (.iconst 0, 1) := by decide +kernel
theorem d_K_Machine_removeFaults_2 : decode prog_5_method_3_code 2 = .ok (.putfield 21, 3) := by decide +kernel
theorem d_K_Machine_removeFaults_5 : decode prog_5_method_3_code 5 = .ok (.return_, 1) := by decide +kernel
theorem d_K_Machine_faultsHeld_0 : decode prog_5_method_4_code 0 = .ok (.aload_n 0, 1) := by decide +kernel
theorem d_K_Machine_faultsHeld_1 : decode prog_5_method_4_code 1 = .ok (.getfield 21, 3) := by decide +kernel
theorem d_K_Machine_faultsHeld_4 : decode prog_5_method_4_code 4 = .ok (.ireturn, 1) := by decide +kernel
theorem d_K_Exclusions_add_0 : decode prog_3_method_2_code 0 = .ok (.aload_n 0, 1) := by decide +kernel
theorem d_K_Exclusions_add_1 : decode prog_3_method_2_code 1 = .ok (.getfield 18, 3) := by decide +kernel
theorem d_K_Exclusions_add_4 : decode prog_3_method_2_code 4 = .ok (.bipush 6, 2) := by decide +kernel
theorem d_K_Exclusions_add_6 : decode prog_3_method_2_code 6 = .ok (.if_icmp .lt 5, 3) := by decide +kernel
theorem d_K_Exclusions_add_11 : decode prog_3_method_2_code 11 = .ok (.aload_n 0, 1) := by decide +kernel
theorem d_K_Exclusions_add_12 : decode prog_3_method_2_code 12 = .ok (.getfield 9, 3) := by decide +kernel
theorem d_K_Exclusions_add_15 : decode prog_3_method_2_code 15 = .ok (.aload_n 0, 1) := by decide +kernel
theorem d_K_Exclusions_add_16 : decode prog_3_method_2_code 16 = .ok (.getfield 18, 3) := by decide +kernel
theorem d_K_Exclusions_add_19 : decode prog_3_method_2_code 19 = .ok (.iload_n 1, 1) := by decide +kernel
theorem d_K_Exclusions_add_20 : decode prog_3_method_2_code 20 = .ok (.iastore, 1) := by decide +kernel
theorem d_K_Exclusions_add_21 : decode prog_3_method_2_code 21 = .ok (.aload_n 0, 1) := by decide +kernel
theorem d_K_Exclusions_add_22 : decode prog_3_method_2_code 22 = .ok (.getfield 15, 3) := by decide +kernel
theorem d_K_Exclusions_add_25 : decode prog_3_method_2_code 25 = .ok (.aload_n 0, 1) := by decide +kernel
theorem d_K_Exclusions_add_26 : decode prog_3_method_2_code 26 = .ok (.getfield 18, 3) := by decide +kernel
theorem d_K_Exclusions_add_29 : decode prog_3_method_2_code 29 = .ok (.iload_n 2, 1) := by decide +kernel
theorem d_K_Exclusions_add_30 : decode prog_3_method_2_code 30 = .ok (.iastore, 1) := by decide +kernel
theorem d_K_Exclusions_add_31 : decode prog_3_method_2_code 31 = .ok (.aload_n 0, 1) := by decide +kernel
theorem d_K_Exclusions_add_32 : decode prog_3_method_2_code 32 = .ok (.dup, 1) := by decide +kernel
theorem d_K_Exclusions_add_33 : decode prog_3_method_2_code 33 = .ok (.getfield 18, 3) := by decide +kernel
theorem d_K_Exclusions_add_36 : decode prog_3_method_2_code 36 = .ok (.iconst 1, 1) := by decide +kernel
theorem d_K_Exclusions_add_37 : decode prog_3_method_2_code 37 = .ok (.iadd, 1) := by decide +kernel
theorem d_K_Exclusions_add_38 : decode prog_3_method_2_code 38 = .ok (.putfield 18, 3) := by decide +kernel
theorem d_K_Exclusions_add_41 : decode prog_3_method_2_code 41 = .ok (.iconst 1, 1) := by decide +kernel
theorem d_K_Exclusions_add_42 : decode prog_3_method_2_code 42 = .ok (.ireturn, 1) := by decide +kernel
theorem d_K_Exclusions_add_9 : decode prog_3_method_2_code 9 = .ok (.iconst 0, 1) := by decide +kernel
theorem d_K_Exclusions_add_10 : decode prog_3_method_2_code 10 = .ok (.ireturn, 1) := by decide +kernel
theorem d_K_Exclusions_removeAll_0 : decode prog_3_method_3_code 0 = .ok (.aload_n 0, 1) := by decide +kernel
theorem d_K_Exclusions_removeAll_1 : decode prog_3_method_3_code 1 = .ok (.iconst 0, 1) := by decide +kernel
theorem d_K_Exclusions_removeAll_2 : decode prog_3_method_3_code 2 = .ok (.putfield 18, 3) := by decide +kernel
theorem d_K_Exclusions_removeAll_5 : decode prog_3_method_3_code 5 = .ok (.return_, 1) := by decide +kernel
theorem d_K_Exclusions_held_0 : decode prog_3_method_4_code 0 = .ok (.aload_n 0, 1) := by decide +kernel
