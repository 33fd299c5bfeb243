theorem d_K_Exclusions_held_1 : decode prog_3_method_4_code 1 = .ok (.getfield 18, 3) := by decide +kernel
theorem d_K_Exclusions_held_4 : decode prog_3_method_4_code 4 = .ok (.ireturn, 1) := by decide +kernel
theorem d_K_Exclusions_leaveOut_0 : decode prog_3_method_5_code 0 = .ok (.iconst 0, 1) := by decide +kernel
theorem d_K_Exclusions_leaveOut_1 : decode prog_3_method_5_code 1 = .ok (.istore 4, 2) := by decide +kernel
theorem d_K_Exclusions_leaveOut_3 : decode prog_3_method_5_code 3 = .ok (.iload 4, 2) := by decide +kernel
theorem d_K_Exclusions_leaveOut_5 : decode prog_3_method_5_code 5 = .ok (.aload_n 0, 1) := by decide +kernel
theorem d_K_Exclusions_leaveOut_6 : decode prog_3_method_5_code 6 = .ok (.getfield 18, 3) := by decide +kernel
theorem d_K_Exclusions_leaveOut_9 : decode prog_3_method_5_code 9 = .ok (.if_icmp .ge 44, 3) := by decide +kernel
theorem d_K_Exclusions_leaveOut_53 : decode prog_3_method_5_code 53 = .ok (.iconst 0, 1) := by decide +kernel
theorem d_K_Exclusions_leaveOut_54 : decode prog_3_method_5_code 54 = .ok (.ireturn, 1) := by decide +kernel
theorem d_K_Exclusions_leaveOut_12 : decode prog_3_method_5_code 12 = .ok (.aload_n 0, 1) := by decide +kernel
theorem d_K_Exclusions_leaveOut_13 : decode prog_3_method_5_code 13 = .ok (.getfield 9, 3) := by decide +kernel
theorem d_K_Exclusions_leaveOut_16 : decode prog_3_method_5_code 16 = .ok (.iload 4, 2) := by decide +kernel
theorem d_K_Exclusions_leaveOut_18 : decode prog_3_method_5_code 18 = .ok (.iaload, 1) := by decide +kernel
theorem d_K_Exclusions_leaveOut_19 : decode prog_3_method_5_code 19 = .ok (.iload_n 1, 1) := by decide +kernel
theorem d_K_Exclusions_leaveOut_20 : decode prog_3_method_5_code 20 = .ok (.if_icmp .ne 27, 3) := by decide +kernel
theorem d_K_Exclusions_leaveOut_47 : decode prog_3_method_5_code 47 = .ok (.iinc 4 1, 3) := by decide +kernel
theorem d_K_Exclusions_leaveOut_50 : decode prog_3_method_5_code 50 = .ok (.goto (-47), 3) := by decide +kernel
theorem d_K_Exclusions_leaveOut_23 : decode prog_3_method_5_code 23 = .ok (.aload_n 0, 1) := by decide +kernel
theorem d_K_Exclusions_leaveOut_24 : decode prog_3_method_5_code 24 = .ok (.getfield 15, 3) := by decide +kernel
theorem d_K_Exclusions_leaveOut_27 : decode prog_3_method_5_code 27 = .ok (.iload 4, 2) := by decide +kernel
theorem d_K_Exclusions_leaveOut_29 : decode prog_3_method_5_code 29 = .ok (.iaload, 1) := by decide +kernel
theorem d_K_Exclusions_leaveOut_30 : decode prog_3_method_5_code 30 = .ok (.iload_n 2, 1) := by decide +kernel
theorem d_K_Exclusions_leaveOut_31 : decode prog_3_method_5_code 31 = .ok (.if_icmp .eq 14, 3) := by decide +kernel
theorem d_K_Exclusions_leaveOut_45 : decode prog_3_method_5_code 45 = .ok (.iconst 1, 1) := by decide +kernel
theorem d_K_Exclusions_leaveOut_46 : decode prog_3_method_5_code 46 = .ok (.ireturn, 1) := by decide +kernel
theorem d_K_Exclusions_leaveOut_34 : decode prog_3_method_5_code 34 = .ok (.aload_n 0, 1) := by decide +kernel
theorem d_K_Exclusions_leaveOut_35 : decode prog_3_method_5_code 35 = .ok (.getfield 15, 3) := by decide +kernel
theorem d_K_Exclusions_leaveOut_38 : decode prog_3_method_5_code 38 = .ok (.iload 4, 2) := by decide +kernel
theorem d_K_Exclusions_leaveOut_40 : decode prog_3_method_5_code 40 = .ok (.iaload, 1) := by decide +kernel
theorem d_K_Exclusions_leaveOut_41 : decode prog_3_method_5_code 41 = .ok (.iload_n 3, 1) := by decide +kernel
theorem d_K_Exclusions_leaveOut_42 : decode prog_3_method_5_code 42 = .ok (.if_icmp .ne 5, 3) := by decide +kernel
theorem d_K_Tally_taken_0 : decode prog_9_method_7_code 0 = .ok (.aload_n 0, 1) := by decide +kernel
theorem d_K_Tally_taken_1 : decode prog_9_method_7_code 1 = .ok (.getfield 9, 3) := by decide +kernel
theorem d_K_Tally_taken_4 : decode prog_9_method_7_code 4 = .ok (.iload_n 1, 1) := by decide +kernel
theorem d_K_Tally_taken_5 : decode prog_9_method_7_code 5 = .ok (.iaload, 1) := by decide +kernel
theorem d_K_Tally_taken_6 : decode prog_9_method_7_code 6 = .ok (.ireturn, 1) := by decide +kernel
theorem d_K_Tally_failed_0 : decode prog_9_method_8_code 0 = .ok (.aload_n 0, 1) := by decide +kernel
theorem d_K_Tally_failed_1 : decode prog_9_method_8_code 1 = .ok (.getfield 15, 3) := by decide +kernel
theorem d_K_Tally_failed_4 : decode prog_9_method_8_code 4 = .ok (.iload_n 1, 1) := by decide +kernel
theorem d_K_Tally_failed_5 : decode prog_9_method_8_code 5 = .ok (.iaload, 1) := by decide +kernel
theorem d_K_Tally_failed_6 : decode prog_9_method_8_code 6 = .ok (.ireturn, 1) := by decide +kernel
theorem d_K_Tally_marks_0 : decode prog_9_method_9_code 0 = .ok (.aload_n 0, 1) := by decide +kernel
theorem d_K_Tally_marks_1 : decode prog_9_method_9_code 1 = .ok (.getfield 18, 3) := by decide +kernel
theorem d_K_Tally_marks_4 : decode prog_9_method_9_code 4 = .ok (.iload_n 1, 1) := by decide +kernel
theorem d_K_Tally_marks_5 : decode prog_9_method_9_code 5 = .ok (.iaload, 1) := by decide +kernel
theorem d_K_Tally_marks_6 : decode prog_9_method_9_code 6 = .ok (.ireturn, 1) := by decide +kernel
theorem d_K_Tally_leftOut_0 : decode prog_9_method_6_code 0 = .ok (.aload_n 0, 1) := by decide +kernel
theorem d_K_Tally_leftOut_1 : decode prog_9_method_6_code 1 = .ok (.getfield 21, 3) := by decide +kernel
theorem d_K_Tally_leftOut_4 : decode prog_9_method_6_code 4 = .ok (.ireturn, 1) := by decide +kernel
theorem d_K_Tally_noteLeftOut_0 : decode prog_9_method_3_code 0 = .ok (.aload_n 0, 1) := by decide +kernel
theorem d_K_Tally_noteLeftOut_1 : decode prog_9_method_3_code 1 = .ok (.dup, 1) := by decide +kernel
theorem d_K_Tally_noteLeftOut_2 : decode prog_9_method_3_code 2 = .ok (.getfield 21, 3) := by decide +kernel
theorem d_K_Tally_noteLeftOut_5 : decode prog_9_method_3_code 5 = .ok (.iconst 1, 1) := by decide +kernel
theorem d_K_Tally_noteLeftOut_6 : decode prog_9_method_3_code 6 = .ok (.iadd, 1) := by decide +kernel
theorem d_K_Tally_noteLeftOut_7 : decode prog_9_method_3_code 7 = .ok (.putfield 21, 3) := by decide +kernel
theorem d_K_Tally_noteLeftOut_10 : decode prog_9_method_3_code 10 = .ok (.return_, 1) := by decide +kernel
theorem d_K_Tally_noteFailed_0 : decode prog_9_method_5_code 0 = .ok (.aload_n 0, 1) := by decide +kernel
theorem d_K_Tally_noteFailed_1 : decode prog_9_method_5_code 1 = .ok (.getfield 15, 3) := by decide +kernel
theorem d_K_Tally_noteFailed_4 : decode prog_9_method_5_code 4 = .ok (.iload_n 1, 1) := by decide +kernel
theorem d_K_Tally_noteFailed_5 : decode prog_9_method_5_code 5 = .ok (.dup2, 1) := by decide +kernel
theorem d_K_Tally_noteFailed_6 : decode prog_9_method_5_code 6 = .ok (.iaload, 1) := by decide +kernel
theorem d_K_Tally_noteFailed_7 : decode prog_9_method_5_code 7 = .ok (.iconst 1, 1) := by decide +kernel
theorem d_K_Tally_noteFailed_8 : decode prog_9_method_5_code 8 = .ok (.iadd, 1) := by decide +kernel
theorem d_K_Tally_noteFailed_9 : decode prog_9_method_5_code 9 = .ok (.iastore, 1) := by decide +kernel
theorem d_K_Tally_noteFailed_10 : decode prog_9_method_5_code 10 = .ok (.return_, 1) := by decide +kernel
theorem d_K_Tally_noteTaken_0 : decode prog_9_method_4_code 0 = .ok (.aload_n 0, 1) := by decide +kernel
theorem d_K_Tally_noteTaken_1 : decode prog_9_method_4_code 1 = .ok (.getfield 9, 3) := by decide +kernel
theorem d_K_Tally_noteTaken_4 : decode prog_9_method_4_code 4 = .ok (.iload_n 1, 1) := by decide +kernel
theorem d_K_Tally_noteTaken_5 : decode prog_9_method_4_code 5 = .ok (.dup2, 1) := by decide +kernel
theorem d_K_Tally_noteTaken_6 : decode prog_9_method_4_code 6 = .ok (.iaload, 1) := by decide +kernel
theorem d_K_Tally_noteTaken_7 : decode prog_9_method_4_code 7 = .ok (.iconst 1, 1) := by decide +kernel
theorem d_K_Tally_noteTaken_8 : decode prog_9_method_4_code 8 = .ok (.iadd, 1) := by decide +kernel
theorem d_K_Tally_noteTaken_9 : decode prog_9_method_4_code 9 = .ok (.iastore, 1) := by decide +kernel
theorem d_K_Tally_noteTaken_10 : decode prog_9_method_4_code 10 = .ok (.aload_n 0, 1) := by decide +kernel
theorem d_K_Tally_noteTaken_11 : decode prog_9_method_4_code 11 = .ok (.getfield 18, 3) := by decide +kernel
theorem d_K_Tally_noteTaken_14 : decode prog_9_method_4_code 14 = .ok (.iload_n 1, 1) := by decide +kernel
theorem d_K_Tally_noteTaken_15 : decode prog_9_method_4_code 15 = .ok (.dup2, 1) := by decide +kernel
theorem d_K_Tally_noteTaken_16 : decode prog_9_method_4_code 16 = .ok (.iaload, 1) := by decide +kernel
theorem d_K_Tally_noteTaken_17 : decode prog_9_method_4_code 17 = .ok (.lload_n 2, 1) := by decide +kernel
theorem d_K_Tally_noteTaken_18 : decode prog_9_method_4_code 18 = .ok (.invokestatic 31, 3) := by decide +kernel
theorem d_K_Tally_noteTaken_21 : decode prog_9_method_4_code 21 = .ok (.ior, 1) := by decide +kernel
theorem d_K_Tally_noteTaken_22 : decode prog_9_method_4_code 22 = .ok (.iastore, 1) := by decide +kernel
theorem d_K_Tally_noteTaken_23 : decode prog_9_method_4_code 23 = .ok (.return_, 1) := by decide +kernel
theorem d_K_FailureList_forget_0 : decode prog_4_method_2_code 0 = .ok (.aload_n 0, 1) := by decide +kernel
theorem d_K_FailureList_forget_1 : decode prog_4_method_2_code 1 = .ok (.iconst 0, 1) := by decide +kernel
theorem d_K_FailureList_forget_2 : decode prog_4_method_2_code 2 = .ok (.putfield 28, 3) := by decide +kernel
theorem d_K_FailureList_forget_5 : decode prog_4_method_2_code 5 = .ok (.return_, 1) := by decide +kernel
theorem d_K_FailureList_held_0 : decode prog_4_method_3_code 0 = .ok (.aload_n 0, 1) := by decide +kernel
theorem d_K_FailureList_held_1 : decode prog_4_method_3_code 1 = .ok (.getfield 28, 3) := by decide +kernel
theorem d_K_FailureList_held_4 : decode prog_4_method_3_code 4 = .ok (.ireturn, 1) := by decide +kernel
theorem d_K_FailureList_entry_0 : decode prog_4_method_5_code 0 = .ok (.aload_n 0, 1) := by decide +kernel
theorem d_K_FailureList_entry_1 : decode prog_4_method_5_code 1 = .ok (.getfield 9, 3) := by decide +kernel
theorem d_K_FailureList_entry_4 : decode prog_4_method_5_code 4 = .ok (.iload_n 1, 1) := by decide +kernel
theorem d_K_FailureList_entry_5 : decode prog_4_method_5_code 5 = .ok (.iaload, 1) := by decide +kernel
theorem d_K_FailureList_entry_6 : decode prog_4_method_5_code 6 = .ok (.ireturn, 1) := by decide +kernel
theorem d_K_FailureList_placeOfA_0 : decode prog_4_method_6_code 0 = .ok (.aload_n 0, 1) := by decide +kernel
theorem d_K_FailureList_placeOfA_1 : decode prog_4_method_6_code 1 = .ok (.getfield 15, 3) := by decide +kernel
theorem d_K_FailureList_placeOfA_4 : decode prog_4_method_6_code 4 = .ok (.iload_n 1, 1) := by decide +kernel
theorem d_K_FailureList_placeOfA_5 : decode prog_4_method_6_code 5 = .ok (.iaload, 1) := by decide +kernel
theorem d_K_FailureList_placeOfA_6 : decode prog_4_method_6_code 6 = .ok (.ireturn, 1) := by decide +kernel
theorem d_K_FailureList_placeOfB_0 : decode prog_4_method_7_code 0 = .ok (.aload_n 0, 1) := by decide +kernel
theorem d_K_FailureList_placeOfB_1 : decode prog_4_method_7_code 1 = .ok (.getfield 18, 3) := by decide +kernel
theorem d_K_FailureList_placeOfB_4 : decode prog_4_method_7_code 4 = .ok (.iload_n 1, 1) := by decide +kernel
theorem d_K_FailureList_placeOfB_5 : decode prog_4_method_7_code 5 = .ok (.iaload, 1) := by decide +kernel
theorem d_K_FailureList_placeOfB_6 : decode prog_4_method_7_code 6 = .ok (.ireturn, 1) := by decide +kernel
theorem d_K_FailureList_foretold_0 : decode prog_4_method_8_code 0 = .ok (.aload_n 0, 1) := by decide +kernel
theorem d_K_FailureList_foretold_1 : decode prog_4_method_8_code 1 = .ok (.getfield 21, 3) := by decide +kernel
theorem d_K_FailureList_foretold_4 : decode prog_4_method_8_code 4 = .ok (.iload_n 1, 1) := by decide +kernel
theorem d_K_FailureList_foretold_5 : decode prog_4_method_8_code 5 = .ok (.laload, 1) := by decide +kernel
theorem d_K_FailureList_foretold_6 : decode prog_4_method_8_code 6 = .ok (.lreturn, 1) := by decide +kernel
theorem d_K_FailureList_given_0 : decode prog_4_method_9_code 0 = .ok (.aload_n 0, 1) := by decide +kernel
theorem d_K_FailureList_given_1 : decode prog_4_method_9_code 1 = .ok (.getfield 25, 3) := by decide +kernel
theorem d_K_FailureList_given_4 : decode prog_4_method_9_code 4 = .ok (.iload_n 1, 1) := by decide +kernel
theorem d_K_FailureList_given_5 : decode prog_4_method_9_code 5 = .ok (.laload, 1) := by decide +kernel
theorem d_K_FailureList_given_6 : decode prog_4_method_9_code 6 = .ok (.lreturn, 1) := by decide +kernel
theorem d_K_FailureList_keep_0 : decode prog_4_method_4_code 0 = .ok (.aload_n 0, 1) := by decide +kernel
theorem d_K_FailureList_keep_1 : decode prog_4_method_4_code 1 = .ok (.getfield 28, 3) := by decide +kernel
theorem d_K_FailureList_keep_4 : decode prog_4_method_4_code 4 = .ok (.bipush 12, 2) := by decide +kernel
theorem d_K_FailureList_keep_6 : decode prog_4_method_4_code 6 = .ok (.if_icmp .lt 4, 3) := by decide +kernel
theorem d_K_FailureList_keep_10 : decode prog_4_method_4_code 10 = .ok (.aload_n 0, 1) := by decide +kernel
theorem d_K_FailureList_keep_11 : decode prog_4_method_4_code 11 = .ok (.getfield 9, 3) := by decide +kernel
theorem d_K_FailureList_keep_14 : decode prog_4_method_4_code 14 = .ok (.aload_n 0, 1) := by decide +kernel
theorem d_K_FailureList_keep_15 : decode prog_4_method_4_code 15 = .ok (.getfield 28, 3) := by decide +kernel
theorem d_K_FailureList_keep_18 : decode prog_4_method_4_code 18 = .ok (.iload_n 1, 1) := by decide +kernel
theorem d_K_FailureList_keep_19 : decode prog_4_method_4_code 19 = .ok (.iastore, 1) := by decide +kernel
theorem d_K_FailureList_keep_20 : decode prog_4_method_4_code 20 = .ok (.aload_n 0, 1) := by decide +kernel
theorem d_K_FailureList_keep_21 : decode prog_4_method_4_code 21 = .ok (.getfield 15, 3) := by decide +kernel
theorem d_K_FailureList_keep_24 : decode prog_4_method_4_code 24 = .ok (.aload_n 0, 1) := by decide +kernel
theorem d_K_FailureList_keep_25 : decode prog_4_method_4_code 25 = .ok (.getfield 28, 3) := by decide +kernel
theorem d_K_FailureList_keep_28 : decode prog_4_method_4_code 28 = .ok (.iload_n 2, 1) := by decide +kernel
theorem d_K_FailureList_keep_29 : decode prog_4_method_4_code 29 = .ok (.iastore, 1) := by decide +kernel
theorem d_K_FailureList_keep_30 : decode prog_4_method_4_code 30 = .ok (.aload_n 0, 1) := by decide +kernel
theorem d_K_FailureList_keep_31 : decode prog_4_method_4_code 31 = .ok (.getfield 18, 3) := by decide +kernel
theorem d_K_FailureList_keep_34 : decode prog_4_method_4_code 34 = .ok (.aload_n 0, 1) := by decide +kernel
theorem d_K_FailureList_keep_35 : decode prog_4_method_4_code 35 = .ok (.getfield 28, 3) := by decide +kernel
theorem d_K_FailureList_keep_38 : decode prog_4_method_4_code 38 = .ok (.iload_n 3, 1) := by decide +kernel
theorem d_K_FailureList_keep_39 : decode prog_4_method_4_code 39 = .ok (.iastore, 1) := by decide +kernel
theorem d_K_FailureList_keep_40 : decode prog_4_method_4_code 40 = .ok (.aload_n 0, 1) := by decide +kernel
theorem d_K_FailureList_keep_41 : decode prog_4_method_4_code 41 = .ok (.getfield 21, 3) := by decide +kernel
theorem d_K_FailureList_keep_44 : decode prog_4_method_4_code 44 = .ok (.aload_n 0, 1) := by decide +kernel
theorem d_K_FailureList_keep_45 : decode prog_4_method_4_code 45 = .ok (.getfield 28, 3) := by decide +kernel
theorem d_K_FailureList_keep_48 : decode prog_4_method_4_code 48 = .ok (.lload 4, 2) := by decide +kernel
theorem d_K_FailureList_keep_50 : decode prog_4_method_4_code 50 = .ok (.lastore, 1) := by decide +kernel
theorem d_K_FailureList_keep_51 : decode prog_4_method_4_code 51 = .ok (.aload_n 0, 1) := by decide +kernel
theorem d_K_FailureList_keep_52 : decode prog_4_method_4_code 52 = .ok (.getfield 25, 3) := by decide +kernel
theorem d_K_FailureList_keep_55 : decode prog_4_method_4_code 55 = .ok (.aload_n 0, 1) := by decide +kernel
theorem d_K_FailureList_keep_56 : decode prog_4_method_4_code 56 = .ok (.getfield 28, 3) := by decide +kernel
theorem d_K_FailureList_keep_59 : decode prog_4_method_4_code 59 = .ok (.lload 6, 2) := by decide +kernel
theorem d_K_FailureList_keep_61 : decode prog_4_method_4_code 61 = .ok (.lastore, 1) := by decide +kernel
theorem d_K_FailureList_keep_62 : decode prog_4_method_4_code 62 = .ok (.aload_n 0, 1) := by decide +kernel
theorem d_K_FailureList_keep_63 : decode prog_4_method_4_code 63 = .ok (.dup, 1) := by decide +kernel
theorem d_K_FailureList_keep_64 : decode prog_4_method_4_code 64 = .ok (.getfield 28, 3) := by decide +kernel
theorem d_K_FailureList_keep_67 : decode prog_4_method_4_code 67 = .ok (.iconst 1, 1) := by decide +kernel
theorem d_K_FailureList_keep_68 : decode prog_4_method_4_code 68 = .ok (.iadd, 1) := by decide +kernel
theorem d_K_FailureList_keep_69 : decode prog_4_method_4_code 69 = .ok (.putfield 28, 3) := by decide +kernel
theorem d_K_FailureList_keep_72 : decode prog_4_method_4_code 72 = .ok (.return_, 1) := by decide +kernel
theorem d_K_FailureList_keep_9 : decode prog_4_method_4_code 9 = .ok (.return_, 1) := by decide +kernel
theorem d_K_Report_forget_0 : decode prog_7_method_2_code 0 = .ok (.aload_n 0, 1) := by decide +kernel
theorem d_K_Report_forget_1 : decode prog_7_method_2_code 1 = .ok (.iconst 0, 1) := by decide +kernel
