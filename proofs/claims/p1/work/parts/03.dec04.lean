theorem d_K_Machine_give_26 : decode prog_5_method_5_code 26 = .ok (.iaload, 1) := by decide +kernel
theorem d_K_Machine_give_27 : decode prog_5_method_5_code 27 = .ok (.iload_n 1, 1) := by decide +kernel
theorem d_K_Machine_give_28 : decode prog_5_method_5_code 28 = .ok (.if_icmp .ne 47, 3) := by decide +kernel
theorem d_K_Machine_give_75 : decode prog_5_method_5_code 75 = .ok (.iinc 6 1, 3) := by decide +kernel
theorem d_K_Machine_give_78 : decode prog_5_method_5_code 78 = .ok (.goto (-67), 3) := by decide +kernel
theorem d_K_Machine_give_31 : decode prog_5_method_5_code 31 = .ok (.aload_n 0, 1) := by decide +kernel
theorem d_K_Machine_give_32 : decode prog_5_method_5_code 32 = .ok (.getfield 15, 3) := by decide +kernel
theorem d_K_Machine_give_35 : decode prog_5_method_5_code 35 = .ok (.iload 6, 2) := by decide +kernel
theorem d_K_Machine_give_37 : decode prog_5_method_5_code 37 = .ok (.iaload, 1) := by decide +kernel
theorem d_K_Machine_give_38 : decode prog_5_method_5_code 38 = .ok (.aload_n 0, 1) := by decide +kernel
theorem d_K_Machine_give_39 : decode prog_5_method_5_code 39 = .ok (.getfield 18, 3) := by decide +kernel
theorem d_K_Machine_give_42 : decode prog_5_method_5_code 42 = .ok (.iload 6, 2) := by decide +kernel
theorem d_K_Machine_give_44 : decode prog_5_method_5_code 44 = .ok (.iaload, 1) := by decide +kernel
theorem d_K_Machine_give_45 : decode prog_5_method_5_code 45 = .ok (.iload_n 2, 1) := by decide +kernel
theorem d_K_Machine_give_46 : decode prog_5_method_5_code 46 = .ok (.iload_n 3, 1) := by decide +kernel
theorem d_K_Machine_give_47 : decode prog_5_method_5_code 47 = .ok (.lload 4, 2) := by decide +kernel
theorem d_K_Machine_give_49 : decode prog_5_method_5_code 49 = .ok (.invokestatic 31, 3) := by decide +kernel
theorem d_K_Machine_give_52 : decode prog_5_method_5_code 52 = .ok (.ifCond .eq 23, 3) := by decide +kernel
theorem d_K_Machine_give_55 : decode prog_5_method_5_code 55 = .ok (.aload_n 0, 1) := by decide +kernel
theorem d_K_Machine_give_56 : decode prog_5_method_5_code 56 = .ok (.getfield 15, 3) := by decide +kernel
theorem d_K_Machine_give_59 : decode prog_5_method_5_code 59 = .ok (.iload 6, 2) := by decide +kernel
theorem d_K_Machine_give_61 : decode prog_5_method_5_code 61 = .ok (.iaload, 1) := by decide +kernel
theorem d_K_Machine_give_62 : decode prog_5_method_5_code 62 = .ok (.aload_n 0, 1) := by decide +kernel
theorem d_K_Machine_give_63 : decode prog_5_method_5_code 63 = .ok (.getfield 18, 3) := by decide +kernel
theorem d_K_Machine_give_66 : decode prog_5_method_5_code 66 = .ok (.iload 6, 2) := by decide +kernel
theorem d_K_Machine_give_68 : decode prog_5_method_5_code 68 = .ok (.iaload, 1) := by decide +kernel
theorem d_K_Machine_give_69 : decode prog_5_method_5_code 69 = .ok (.lload 4, 2) := by decide +kernel
theorem d_K_Machine_give_71 : decode prog_5_method_5_code 71 = .ok (.invokestatic 35, 3) := by decide +kernel
theorem d_K_Machine_give_74 : decode prog_5_method_5_code 74 = .ok (.lreturn, 1) := by decide +kernel
theorem d_K_Machine_failsAt_0 : decode prog_5_method_6_code 0 = .ok (.getstatic 39, 3) := by decide +kernel
theorem d_K_Machine_failsAt_3 : decode prog_5_method_6_code 3 = .ok (.iload_n 2, 1) := by decide +kernel
theorem d_K_Machine_failsAt_4 : decode prog_5_method_6_code 4 = .ok (.iaload, 1) := by decide +kernel
theorem d_K_Machine_failsAt_5 : decode prog_5_method_6_code 5 = .ok (.istore 4, 2) := by decide +kernel
theorem d_K_Machine_failsAt_7 : decode prog_5_method_6_code 7 = .ok (.getstatic 39, 3) := by decide +kernel
theorem d_K_Machine_failsAt_10 : decode prog_5_method_6_code 10 = .ok (.iload_n 3, 1) := by decide +kernel
theorem d_K_Machine_failsAt_11 : decode prog_5_method_6_code 11 = .ok (.iaload, 1) := by decide +kernel
theorem d_K_Machine_failsAt_12 : decode prog_5_method_6_code 12 = .ok (.istore 5, 2) := by decide +kernel
theorem d_K_Machine_failsAt_14 : decode prog_5_method_6_code 14 = .ok (.aload_n 0, 1) := by decide +kernel
theorem d_K_Machine_failsAt_15 : decode prog_5_method_6_code 15 = .ok (.iload_n 1, 1) := by decide +kernel
theorem d_K_Machine_failsAt_16 : decode prog_5_method_6_code 16 = .ok (.iload 4, 2) := by decide +kernel
theorem d_K_Machine_failsAt_18 : decode prog_5_method_6_code 18 = .ok (.iload 5, 2) := by decide +kernel
theorem d_K_Machine_failsAt_20 : decode prog_5_method_6_code 20 = .ok (.invokevirtual 42, 3) := by decide +kernel
theorem d_K_Machine_failsAt_23 : decode prog_5_method_6_code 23 = .ok (.iload_n 1, 1) := by decide +kernel
theorem d_K_Machine_failsAt_24 : decode prog_5_method_6_code 24 = .ok (.iload 4, 2) := by decide +kernel
theorem d_K_Machine_failsAt_26 : decode prog_5_method_6_code 26 = .ok (.iload 5, 2) := by decide +kernel
theorem d_K_Machine_failsAt_28 : decode prog_5_method_6_code 28 = .ok (.invokestatic 25, 3) := by decide +kernel
theorem d_K_Machine_failsAt_31 : decode prog_5_method_6_code 31 = .ok (.lcmp, 1) := by decide +kernel
theorem d_K_Machine_failsAt_32 : decode prog_5_method_6_code 32 = .ok (.ifCond .eq 7, 3) := by decide +kernel
theorem d_K_Machine_failsAt_39 : decode prog_5_method_6_code 39 = .ok (.iconst 0, 1) := by decide +kernel
theorem d_K_Machine_failsAt_40 : decode prog_5_method_6_code 40 = .ok (.ireturn, 1) := by decide +kernel
theorem d_K_Machine_failsAt_35 : decode prog_5_method_6_code 35 = .ok (.iconst 1, 1) := by decide +kernel
theorem d_K_Machine_failsAt_36 : decode prog_5_method_6_code 36 = .ok (.goto 4, 3) := by decide +kernel
theorem d_K_Tally_sum_0 : decode prog_9_method_13_code 0 = .ok (.iconst 0, 1) := by decide +kernel
theorem d_K_Tally_sum_1 : decode prog_9_method_13_code 1 = .ok (.istore_n 1, 1) := by decide +kernel
theorem d_K_Tally_sum_2 : decode prog_9_method_13_code 2 = .ok (.iconst 0, 1) := by decide +kernel
theorem d_K_Tally_sum_3 : decode prog_9_method_13_code 3 = .ok (.istore_n 2, 1) := by decide +kernel
theorem d_K_Tally_sum_4 : decode prog_9_method_13_code 4 = .ok (.iload_n 2, 1) := by decide +kernel
theorem d_K_Tally_sum_5 : decode prog_9_method_13_code 5 = .ok (.bipush 16, 2) := by decide +kernel
theorem d_K_Tally_sum_7 : decode prog_9_method_13_code 7 = .ok (.if_icmp .ge 15, 3) := by decide +kernel
theorem d_K_Tally_sum_22 : decode prog_9_method_13_code 22 = .ok (.iload_n 1, 1) := by decide +kernel
theorem d_K_Tally_sum_23 : decode prog_9_method_13_code 23 = .ok (.ireturn, 1) := by decide +kernel
theorem d_K_Tally_sum_10 : decode prog_9_method_13_code 10 = .ok (.iload_n 1, 1) := by decide +kernel
theorem d_K_Tally_sum_11 : decode prog_9_method_13_code 11 = .ok (.aload_n 0, 1) := by decide +kernel
theorem d_K_Tally_sum_12 : decode prog_9_method_13_code 12 = .ok (.iload_n 2, 1) := by decide +kernel
theorem d_K_Tally_sum_13 : decode prog_9_method_13_code 13 = .ok (.iaload, 1) := by decide +kernel
theorem d_K_Tally_sum_14 : decode prog_9_method_13_code 14 = .ok (.iadd, 1) := by decide +kernel
theorem d_K_Tally_sum_15 : decode prog_9_method_13_code 15 = .ok (.istore_n 1, 1) := by decide +kernel
theorem d_K_Tally_sum_16 : decode prog_9_method_13_code 16 = .ok (.iinc 2 1, 3) := by decide +kernel
theorem d_K_Tally_sum_19 : decode prog_9_method_13_code 19 = .ok (.goto (-15), 3) := by decide +kernel
theorem d_K_Tally_takenInAll_0 : decode prog_9_method_10_code 0 = .ok (.aload_n 0, 1) := by decide +kernel
theorem d_K_Tally_takenInAll_1 : decode prog_9_method_10_code 1 = .ok (.getfield 9, 3) := by decide +kernel
theorem d_K_Tally_takenInAll_4 : decode prog_9_method_10_code 4 = .ok (.invokestatic 35, 3) := by decide +kernel
theorem d_K_Tally_takenInAll_7 : decode prog_9_method_10_code 7 = .ok (.ireturn, 1) := by decide +kernel
theorem d_K_Tally_failedInAll_0 : decode prog_9_method_11_code 0 = .ok (.aload_n 0, 1) := by decide +kernel
theorem d_K_Tally_failedInAll_1 : decode prog_9_method_11_code 1 = .ok (.getfield 15, 3) := by decide +kernel
theorem d_K_Tally_failedInAll_4 : decode prog_9_method_11_code 4 = .ok (.invokestatic 35, 3) := by decide +kernel
theorem d_K_Tally_failedInAll_7 : decode prog_9_method_11_code 7 = .ok (.ireturn, 1) := by decide +kernel
theorem d_K_Tally_marksInAll_0 : decode prog_9_method_12_code 0 = .ok (.iconst 0, 1) := by decide +kernel
theorem d_K_Tally_marksInAll_1 : decode prog_9_method_12_code 1 = .ok (.istore_n 1, 1) := by decide +kernel
theorem d_K_Tally_marksInAll_2 : decode prog_9_method_12_code 2 = .ok (.iconst 0, 1) := by decide +kernel
theorem d_K_Tally_marksInAll_3 : decode prog_9_method_12_code 3 = .ok (.istore_n 2, 1) := by decide +kernel
theorem d_K_Tally_marksInAll_4 : decode prog_9_method_12_code 4 = .ok (.iload_n 2, 1) := by decide +kernel
theorem d_K_Tally_marksInAll_5 : decode prog_9_method_12_code 5 = .ok (.bipush 16, 2) := by decide +kernel
theorem d_K_Tally_marksInAll_7 : decode prog_9_method_12_code 7 = .ok (.if_icmp .ge 21, 3) := by decide +kernel
theorem d_K_Tally_marksInAll_28 : decode prog_9_method_12_code 28 = .ok (.iload_n 1, 1) := by decide +kernel
theorem d_K_Tally_marksInAll_29 : decode prog_9_method_12_code 29 = .ok (.ireturn, 1) := by decide +kernel
theorem d_K_Tally_marksInAll_10 : decode prog_9_method_12_code 10 = .ok (.iload_n 1, 1) := by decide +kernel
theorem d_K_Tally_marksInAll_11 : decode prog_9_method_12_code 11 = .ok (.aload_n 0, 1) := by decide +kernel
theorem d_K_Tally_marksInAll_12 : decode prog_9_method_12_code 12 = .ok (.getfield 18, 3) := by decide +kernel
theorem d_K_Tally_marksInAll_15 : decode prog_9_method_12_code 15 = .ok (.iload_n 2, 1) := by decide +kernel
theorem d_K_Tally_marksInAll_16 : decode prog_9_method_12_code 16 = .ok (.iaload, 1) := by decide +kernel
theorem d_K_Tally_marksInAll_17 : decode prog_9_method_12_code 17 = .ok (.invokestatic 39, 3) := by decide +kernel
theorem d_K_Tally_marksInAll_20 : decode prog_9_method_12_code 20 = .ok (.iadd, 1) := by decide +kernel
theorem d_K_Tally_marksInAll_21 : decode prog_9_method_12_code 21 = .ok (.istore_n 1, 1) := by decide +kernel
theorem d_K_Tally_marksInAll_22 : decode prog_9_method_12_code 22 = .ok (.iinc 2 1, 3) := by decide +kernel
theorem d_K_Tally_marksInAll_25 : decode prog_9_method_12_code 25 = .ok (.goto (-21), 3) := by decide +kernel
theorem d_K_PairBook_mark_0 : decode prog_6_method_5_code 0 = .ok (.iconst 1, 1) := by decide +kernel
theorem d_K_PairBook_mark_1 : decode prog_6_method_5_code 1 = .ok (.iload_n 3, 1) := by decide +kernel
theorem d_K_PairBook_mark_2 : decode prog_6_method_5_code 2 = .ok (.ishl, 1) := by decide +kernel
theorem d_K_PairBook_mark_3 : decode prog_6_method_5_code 3 = .ok (.istore 4, 2) := by decide +kernel
theorem d_K_PairBook_mark_5 : decode prog_6_method_5_code 5 = .ok (.aload_n 1, 1) := by decide +kernel
theorem d_K_PairBook_mark_6 : decode prog_6_method_5_code 6 = .ok (.iload_n 2, 1) := by decide +kernel
theorem d_K_PairBook_mark_7 : decode prog_6_method_5_code 7 = .ok (.iaload, 1) := by decide +kernel
theorem d_K_PairBook_mark_8 : decode prog_6_method_5_code 8 = .ok (.iload 4, 2) := by decide +kernel
theorem d_K_PairBook_mark_10 : decode prog_6_method_5_code 10 = .ok (.iand, 1) := by decide +kernel
theorem d_K_PairBook_mark_11 : decode prog_6_method_5_code 11 = .ok (.ifCond .ne 21, 3) := by decide +kernel
theorem d_K_PairBook_mark_32 : decode prog_6_method_5_code 32 = .ok (.return_, 1) := by decide +kernel
theorem d_K_PairBook_mark_14 : decode prog_6_method_5_code 14 = .ok (.aload_n 1, 1) := by decide +kernel
theorem d_K_PairBook_mark_15 : decode prog_6_method_5_code 15 = .ok (.iload_n 2, 1) := by decide +kernel
theorem d_K_PairBook_mark_16 : decode prog_6_method_5_code 16 = .ok (.dup2, 1) := by decide +kernel
theorem d_K_PairBook_mark_17 : decode prog_6_method_5_code 17 = .ok (.iaload, 1) := by decide +kernel
theorem d_K_PairBook_mark_18 : decode prog_6_method_5_code 18 = .ok (.iload 4, 2) := by decide +kernel
theorem d_K_PairBook_mark_20 : decode prog_6_method_5_code 20 = .ok (.ior, 1) := by decide +kernel
theorem d_K_PairBook_mark_21 : decode prog_6_method_5_code 21 = .ok (.iastore, 1) := by decide +kernel
theorem d_K_PairBook_mark_22 : decode prog_6_method_5_code 22 = .ok (.aload_n 0, 1) := by decide +kernel
theorem d_K_PairBook_mark_23 : decode prog_6_method_5_code 23 = .ok (.dup, 1) := by decide +kernel
theorem d_K_PairBook_mark_24 : decode prog_6_method_5_code 24 = .ok (.getfield 21, 3) := by decide +kernel
theorem d_K_PairBook_mark_27 : decode prog_6_method_5_code 27 = .ok (.iconst 1, 1) := by decide +kernel
theorem d_K_PairBook_mark_28 : decode prog_6_method_5_code 28 = .ok (.iadd, 1) := by decide +kernel
theorem d_K_PairBook_mark_29 : decode prog_6_method_5_code 29 = .ok (.putfield 21, 3) := by decide +kernel
theorem d_K_PairBook_note_0 : decode prog_6_method_4_code 0 = .ok (.aload_n 0, 1) := by decide +kernel
theorem d_K_PairBook_note_1 : decode prog_6_method_4_code 1 = .ok (.getfield 21, 3) := by decide +kernel
theorem d_K_PairBook_note_4 : decode prog_6_method_4_code 4 = .ok (.istore 4, 2) := by decide +kernel
theorem d_K_PairBook_note_6 : decode prog_6_method_4_code 6 = .ok (.aload_n 0, 1) := by decide +kernel
theorem d_K_PairBook_note_7 : decode prog_6_method_4_code 7 = .ok (.aload_n 0, 1) := by decide +kernel
theorem d_K_PairBook_note_8 : decode prog_6_method_4_code 8 = .ok (.getfield 9, 3) := by decide +kernel
theorem d_K_PairBook_note_11 : decode prog_6_method_4_code 11 = .ok (.iload_n 1, 1) := by decide +kernel
theorem d_K_PairBook_note_12 : decode prog_6_method_4_code 12 = .ok (.iload_n 2, 1) := by decide +kernel
theorem d_K_PairBook_note_13 : decode prog_6_method_4_code 13 = .ok (.invokevirtual 31, 3) := by decide +kernel
theorem d_K_PairBook_note_16 : decode prog_6_method_4_code 16 = .ok (.aload_n 0, 1) := by decide +kernel
theorem d_K_PairBook_note_17 : decode prog_6_method_4_code 17 = .ok (.aload_n 0, 1) := by decide +kernel
theorem d_K_PairBook_note_18 : decode prog_6_method_4_code 18 = .ok (.getfield 15, 3) := by decide +kernel
theorem d_K_PairBook_note_21 : decode prog_6_method_4_code 21 = .ok (.iload_n 1, 1) := by decide +kernel
theorem d_K_PairBook_note_22 : decode prog_6_method_4_code 22 = .ok (.iload_n 3, 1) := by decide +kernel
theorem d_K_PairBook_note_23 : decode prog_6_method_4_code 23 = .ok (.invokevirtual 31, 3) := by decide +kernel
theorem d_K_PairBook_note_26 : decode prog_6_method_4_code 26 = .ok (.aload_n 0, 1) := by decide +kernel
theorem d_K_PairBook_note_27 : decode prog_6_method_4_code 27 = .ok (.aload_n 0, 1) := by decide +kernel
theorem d_K_PairBook_note_28 : decode prog_6_method_4_code 28 = .ok (.getfield 18, 3) := by decide +kernel
theorem d_K_PairBook_note_31 : decode prog_6_method_4_code 31 = .ok (.iload_n 2, 1) := by decide +kernel
theorem d_K_PairBook_note_32 : decode prog_6_method_4_code 32 = .ok (.iload_n 3, 1) := by decide +kernel
theorem d_K_PairBook_note_33 : decode prog_6_method_4_code 33 = .ok (.invokevirtual 31, 3) := by decide +kernel
theorem d_K_PairBook_note_36 : decode prog_6_method_4_code 36 = .ok (.aload_n 0, 1) := by decide +kernel
theorem d_K_PairBook_note_37 : decode prog_6_method_4_code 37 = .ok (.getfield 21, 3) := by decide +kernel
theorem d_K_PairBook_note_40 : decode prog_6_method_4_code 40 = .ok (.iload 4, 2) := by decide +kernel
theorem d_K_PairBook_note_42 : decode prog_6_method_4_code 42 = .ok (.if_icmp .le 7, 3) := by decide +kernel
theorem d_K_PairBook_note_49 : decode prog_6_method_4_code 49 = .ok (.iconst 0, 1) := by decide +kernel
theorem d_K_PairBook_note_50 : decode prog_6_method_4_code 50 = .ok (.ireturn, 1) := by decide +kernel
theorem d_K_PairBook_note_45 : decode prog_6_method_4_code 45 = .ok (.iconst 1, 1) := by decide +kernel
theorem d_K_PairBook_note_46 : decode prog_6_method_4_code 46 = .ok (.goto 4, 3) := by decide +kernel
theorem d_K_PairBook_forget_0 : decode prog_6_method_2_code 0 = .ok (.aload_n 0, 1) := by decide +kernel
theorem d_K_PairBook_forget_1 : decode prog_6_method_2_code 1 = .ok (.getfield 9, 3) := by decide +kernel
theorem d_K_PairBook_forget_4 : decode prog_6_method_2_code 4 = .ok (.iconst 0, 1) := by decide +kernel
theorem d_K_PairBook_forget_5 : decode prog_6_method_2_code 5 = .ok (.invokestatic 25, 3) := by decide +kernel
theorem d_K_PairBook_forget_8 : decode prog_6_method_2_code 8 = .ok (.aload_n 0, 1) := by decide +kernel
theorem d_K_PairBook_forget_9 : decode prog_6_method_2_code 9 = .ok (.getfield 15, 3) := by decide +kernel
theorem d_K_PairBook_forget_12 : decode prog_6_method_2_code 12 = .ok (.iconst 0, 1) := by decide +kernel
theorem d_K_PairBook_forget_13 : decode prog_6_method_2_code 13 = .ok (.invokestatic 25, 3) := by decide +kernel
theorem d_K_PairBook_forget_16 : decode prog_6_method_2_code 16 = .ok (.aload_n 0, 1) := by decide +kernel
theorem d_K_PairBook_forget_17 : decode prog_6_method_2_code 17 = .ok (.getfield 18, 3) := by decide +kernel
theorem d_K_PairBook_forget_20 : decode prog_6_method_2_code 20 = .ok (.iconst 0, 1) := by decide +kernel
