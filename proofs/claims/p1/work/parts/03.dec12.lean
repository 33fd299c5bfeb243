theorem d_RM_foretold_207 : decode prog_12_method_10_code 207 = .ok (.ldc2_w 120, 3) := by decide +kernel
theorem d_RM_foretold_210 : decode prog_12_method_10_code 210 = .ok (.goto 17, 3) := by decide +kernel
theorem d_RM_foretold_228 : decode prog_12_method_10_code 228 = .ok (.iload_n 1, 1) := by decide +kernel
theorem d_RM_foretold_229 : decode prog_12_method_10_code 229 = .ok (.iload_n 2, 1) := by decide +kernel
theorem d_RM_foretold_230 : decode prog_12_method_10_code 230 = .ok (.if_icmp .ne 8, 3) := by decide +kernel
theorem d_RM_foretold_238 : decode prog_12_method_10_code 238 = .ok (.ldc2_w 124, 3) := by decide +kernel
theorem d_RM_foretold_241 : decode prog_12_method_10_code 241 = .ok (.lreturn, 1) := by decide +kernel
theorem d_RM_foretold_233 : decode prog_12_method_10_code 233 = .ok (.iload_n 1, 1) := by decide +kernel
theorem d_RM_foretold_234 : decode prog_12_method_10_code 234 = .ok (.i2l, 1) := by decide +kernel
theorem d_RM_foretold_235 : decode prog_12_method_10_code 235 = .ok (.goto 6, 3) := by decide +kernel
theorem d_RM_foretold_242 : decode prog_12_method_10_code 242 = .ok (.iload_n 1, 1) := by decide +kernel
theorem d_RM_foretold_243 : decode prog_12_method_10_code 243 = .ok (.iload_n 2, 1) := by decide +kernel
theorem d_RM_foretold_244 : decode prog_12_method_10_code 244 = .ok (.if_icmp .le 9, 3) := by decide +kernel
theorem d_RM_foretold_253 : decode prog_12_method_10_code 253 = .ok (.ldc2_w 128, 3) := by decide +kernel
theorem d_RM_foretold_256 : decode prog_12_method_10_code 256 = .ok (.lreturn, 1) := by decide +kernel
theorem d_RM_foretold_247 : decode prog_12_method_10_code 247 = .ok (.ldc2_w 126, 3) := by decide +kernel
theorem d_RM_foretold_250 : decode prog_12_method_10_code 250 = .ok (.goto 6, 3) := by decide +kernel
theorem d_RM_foretold_257 : decode prog_12_method_10_code 257 = .ok (.iload_n 1, 1) := by decide +kernel
theorem d_RM_foretold_258 : decode prog_12_method_10_code 258 = .ok (.iload_n 2, 1) := by decide +kernel
theorem d_RM_foretold_259 : decode prog_12_method_10_code 259 = .ok (.if_icmp .ge 9, 3) := by decide +kernel
theorem d_RM_foretold_268 : decode prog_12_method_10_code 268 = .ok (.iload_n 1, 1) := by decide +kernel
theorem d_RM_foretold_269 : decode prog_12_method_10_code 269 = .ok (.iload_n 2, 1) := by decide +kernel
theorem d_RM_foretold_270 : decode prog_12_method_10_code 270 = .ok (.if_icmp .le 7, 3) := by decide +kernel
theorem d_RM_foretold_277 : decode prog_12_method_10_code 277 = .ok (.lconst 0, 1) := by decide +kernel
theorem d_RM_foretold_278 : decode prog_12_method_10_code 278 = .ok (.lreturn, 1) := by decide +kernel
theorem d_RM_foretold_273 : decode prog_12_method_10_code 273 = .ok (.lconst 1, 1) := by decide +kernel
theorem d_RM_foretold_274 : decode prog_12_method_10_code 274 = .ok (.goto 4, 3) := by decide +kernel
theorem d_RM_foretold_262 : decode prog_12_method_10_code 262 = .ok (.ldc2_w 130, 3) := by decide +kernel
theorem d_RM_foretold_265 : decode prog_12_method_10_code 265 = .ok (.goto 13, 3) := by decide +kernel
theorem d_RM_trouble_0 : decode prog_12_method_11_code 0 = .ok (.lload_n 0, 1) := by decide +kernel
theorem d_RM_trouble_1 : decode prog_12_method_11_code 1 = .ok (.ldc2_w 110, 3) := by decide +kernel
theorem d_RM_trouble_4 : decode prog_12_method_11_code 4 = .ok (.lcmp, 1) := by decide +kernel
theorem d_RM_trouble_5 : decode prog_12_method_11_code 5 = .ok (.ifCond .lt 7, 3) := by decide +kernel
theorem d_RM_trouble_12 : decode prog_12_method_11_code 12 = .ok (.iconst 0, 1) := by decide +kernel
theorem d_RM_trouble_13 : decode prog_12_method_11_code 13 = .ok (.ireturn, 1) := by decide +kernel
theorem d_RM_trouble_8 : decode prog_12_method_11_code 8 = .ok (.iconst 1, 1) := by decide +kernel
theorem d_RM_trouble_9 : decode prog_12_method_11_code 9 = .ok (.goto 4, 3) := by decide +kernel
theorem d_RM_given_0 : decode prog_12_method_12_code 0 = .ok (.iload_n 1, 1) := by decide +kernel
theorem d_RM_given_1 : decode prog_12_method_12_code 1 = .ok (.iload_n 2, 1) := by decide +kernel
theorem d_RM_given_2 : decode prog_12_method_12_code 2 = .ok (.iload_n 3, 1) := by decide +kernel
theorem d_RM_given_3 : decode prog_12_method_12_code 3 = .ok (.invokestatic 132, 3) := by decide +kernel
theorem d_RM_given_6 : decode prog_12_method_12_code 6 = .ok (.lstore 4, 2) := by decide +kernel
theorem d_RM_given_8 : decode prog_12_method_12_code 8 = .ok (.lload 4, 2) := by decide +kernel
theorem d_RM_given_10 : decode prog_12_method_12_code 10 = .ok (.invokestatic 136, 3) := by decide +kernel
theorem d_RM_given_13 : decode prog_12_method_12_code 13 = .ok (.istore 6, 2) := by decide +kernel
theorem d_RM_given_15 : decode prog_12_method_12_code 15 = .ok (.iconst 0, 1) := by decide +kernel
theorem d_RM_given_16 : decode prog_12_method_12_code 16 = .ok (.istore 7, 2) := by decide +kernel
theorem d_RM_given_18 : decode prog_12_method_12_code 18 = .ok (.iload 7, 2) := by decide +kernel
theorem d_RM_given_20 : decode prog_12_method_12_code 20 = .ok (.aload_n 0, 1) := by decide +kernel
theorem d_RM_given_21 : decode prog_12_method_12_code 21 = .ok (.getfield 98, 3) := by decide +kernel
theorem d_RM_given_24 : decode prog_12_method_12_code 24 = .ok (.if_icmp .ge 157, 3) := by decide +kernel
theorem d_RM_given_181 : decode prog_12_method_12_code 181 = .ok (.lload 4, 2) := by decide +kernel
theorem d_RM_given_183 : decode prog_12_method_12_code 183 = .ok (.lreturn, 1) := by decide +kernel
theorem d_RM_excluded_0 : decode prog_12_method_14_code 0 = .ok (.iconst 0, 1) := by decide +kernel
theorem d_RM_excluded_1 : decode prog_12_method_14_code 1 = .ok (.istore 4, 2) := by decide +kernel
theorem d_RM_excluded_3 : decode prog_12_method_14_code 3 = .ok (.iload 4, 2) := by decide +kernel
theorem d_RM_excluded_5 : decode prog_12_method_14_code 5 = .ok (.aload_n 0, 1) := by decide +kernel
theorem d_RM_excluded_6 : decode prog_12_method_14_code 6 = .ok (.getfield 101, 3) := by decide +kernel
theorem d_RM_excluded_9 : decode prog_12_method_14_code 9 = .ok (.if_icmp .ge 44, 3) := by decide +kernel
theorem d_RM_excluded_53 : decode prog_12_method_14_code 53 = .ok (.iconst 0, 1) := by decide +kernel
theorem d_RM_excluded_54 : decode prog_12_method_14_code 54 = .ok (.ireturn, 1) := by decide +kernel
theorem d_RM_outcome_0 : decode prog_12_method_13_code 0 = .ok (.iload_n 1, 1) := by decide +kernel
theorem d_RM_outcome_1 : decode prog_12_method_13_code 1 = .ok (.bipush 16, 2) := by decide +kernel
theorem d_RM_outcome_3 : decode prog_12_method_13_code 3 = .ok (.invokestatic 94, 3) := by decide +kernel
theorem d_RM_outcome_6 : decode prog_12_method_13_code 6 = .ok (.ifCond .ne 7, 3) := by decide +kernel
theorem d_RM_outcome_13 : decode prog_12_method_13_code 13 = .ok (.iload 4, 2) := by decide +kernel
theorem d_RM_outcome_15 : decode prog_12_method_13_code 15 = .ok (.ifCond .eq 13, 3) := by decide +kernel
theorem d_RM_outcome_28 : decode prog_12_method_13_code 28 = .ok (.iload_n 1, 1) := by decide +kernel
theorem d_RM_outcome_29 : decode prog_12_method_13_code 29 = .ok (.iload_n 2, 1) := by decide +kernel
theorem d_RM_outcome_30 : decode prog_12_method_13_code 30 = .ok (.iload_n 3, 1) := by decide +kernel
theorem d_RM_outcome_31 : decode prog_12_method_13_code 31 = .ok (.invokestatic 132, 3) := by decide +kernel
theorem d_RM_outcome_34 : decode prog_12_method_13_code 34 = .ok (.lreturn, 1) := by decide +kernel
theorem d_RM_outcome_18 : decode prog_12_method_13_code 18 = .ok (.aload_n 0, 1) := by decide +kernel
theorem d_RM_outcome_19 : decode prog_12_method_13_code 19 = .ok (.iload_n 1, 1) := by decide +kernel
theorem d_RM_outcome_20 : decode prog_12_method_13_code 20 = .ok (.iload_n 2, 1) := by decide +kernel
theorem d_RM_outcome_21 : decode prog_12_method_13_code 21 = .ok (.iload_n 3, 1) := by decide +kernel
theorem d_RM_outcome_22 : decode prog_12_method_13_code 22 = .ok (.invokevirtual 142, 3) := by decide +kernel
theorem d_RM_outcome_25 : decode prog_12_method_13_code 25 = .ok (.goto 9, 3) := by decide +kernel
theorem d_RM_outcome_9 : decode prog_12_method_13_code 9 = .ok (.ldc2_w 140, 3) := by decide +kernel
theorem d_RM_outcome_12 : decode prog_12_method_13_code 12 = .ok (.lreturn, 1) := by decide +kernel
theorem d_RM_fault_0 : decode prog_12_method_5_code 0 = .ok (.iload_n 1, 1) := by decide +kernel
theorem d_RM_fault_1 : decode prog_12_method_5_code 1 = .ok (.bipush 16, 2) := by decide +kernel
theorem d_RM_fault_3 : decode prog_12_method_5_code 3 = .ok (.invokestatic 94, 3) := by decide +kernel
theorem d_RM_fault_6 : decode prog_12_method_5_code 6 = .ok (.ifCond .eq 11, 3) := by decide +kernel
theorem d_RM_fault_17 : decode prog_12_method_5_code 17 = .ok (.iconst (-1), 1) := by decide +kernel
theorem d_RM_fault_18 : decode prog_12_method_5_code 18 = .ok (.ireturn, 1) := by decide +kernel
theorem d_RM_fault_9 : decode prog_12_method_5_code 9 = .ok (.iload_n 2, 1) := by decide +kernel
theorem d_RM_fault_10 : decode prog_12_method_5_code 10 = .ok (.iconst 5, 1) := by decide +kernel
theorem d_RM_fault_11 : decode prog_12_method_5_code 11 = .ok (.invokestatic 94, 3) := by decide +kernel
theorem d_RM_fault_14 : decode prog_12_method_5_code 14 = .ok (.ifCond .ne 5, 3) := by decide +kernel
theorem d_RM_fault_19 : decode prog_12_method_5_code 19 = .ok (.aload_n 0, 1) := by decide +kernel
theorem d_RM_fault_20 : decode prog_12_method_5_code 20 = .ok (.getfield 98, 3) := by decide +kernel
theorem d_RM_fault_23 : decode prog_12_method_5_code 23 = .ok (.iconst 4, 1) := by decide +kernel
theorem d_RM_fault_24 : decode prog_12_method_5_code 24 = .ok (.if_icmp .ne 6, 3) := by decide +kernel
theorem d_RM_fault_30 : decode prog_12_method_5_code 30 = .ok (.aload_n 0, 1) := by decide +kernel
theorem d_RM_fault_31 : decode prog_12_method_5_code 31 = .ok (.getfield 7, 3) := by decide +kernel
theorem d_RM_fault_34 : decode prog_12_method_5_code 34 = .ok (.aload_n 0, 1) := by decide +kernel
theorem d_RM_fault_35 : decode prog_12_method_5_code 35 = .ok (.getfield 98, 3) := by decide +kernel
theorem d_RM_fault_38 : decode prog_12_method_5_code 38 = .ok (.iload_n 1, 1) := by decide +kernel
theorem d_RM_fault_39 : decode prog_12_method_5_code 39 = .ok (.iastore, 1) := by decide +kernel
theorem d_RM_fault_40 : decode prog_12_method_5_code 40 = .ok (.aload_n 0, 1) := by decide +kernel
theorem d_RM_fault_41 : decode prog_12_method_5_code 41 = .ok (.getfield 13, 3) := by decide +kernel
theorem d_RM_fault_44 : decode prog_12_method_5_code 44 = .ok (.aload_n 0, 1) := by decide +kernel
theorem d_RM_fault_45 : decode prog_12_method_5_code 45 = .ok (.getfield 98, 3) := by decide +kernel
theorem d_RM_fault_48 : decode prog_12_method_5_code 48 = .ok (.iload_n 2, 1) := by decide +kernel
theorem d_RM_fault_49 : decode prog_12_method_5_code 49 = .ok (.iastore, 1) := by decide +kernel
theorem d_RM_fault_50 : decode prog_12_method_5_code 50 = .ok (.aload_n 0, 1) := by decide +kernel
theorem d_RM_fault_51 : decode prog_12_method_5_code 51 = .ok (.getfield 16, 3) := by decide +kernel
theorem d_RM_fault_54 : decode prog_12_method_5_code 54 = .ok (.aload_n 0, 1) := by decide +kernel
theorem d_RM_fault_55 : decode prog_12_method_5_code 55 = .ok (.getfield 98, 3) := by decide +kernel
theorem d_RM_fault_58 : decode prog_12_method_5_code 58 = .ok (.iload_n 3, 1) := by decide +kernel
theorem d_RM_fault_59 : decode prog_12_method_5_code 59 = .ok (.iastore, 1) := by decide +kernel
theorem d_RM_fault_60 : decode prog_12_method_5_code 60 = .ok (.aload_n 0, 1) := by decide +kernel
theorem d_RM_fault_61 : decode prog_12_method_5_code 61 = .ok (.dup, 1) := by decide +kernel
theorem d_RM_fault_62 : decode prog_12_method_5_code 62 = .ok (.getfield 98, 3) := by decide +kernel
theorem d_RM_fault_65 : decode prog_12_method_5_code 65 = .ok (.iconst 1, 1) := by decide +kernel
theorem d_RM_fault_66 : decode prog_12_method_5_code 66 = .ok (.iadd, 1) := by decide +kernel
theorem d_RM_fault_67 : decode prog_12_method_5_code 67 = .ok (.putfield 98, 3) := by decide +kernel
theorem d_RM_fault_70 : decode prog_12_method_5_code 70 = .ok (.aload_n 0, 1) := by decide +kernel
theorem d_RM_fault_71 : decode prog_12_method_5_code 71 = .ok (.getfield 98, 3) := by decide +kernel
theorem d_RM_fault_74 : decode prog_12_method_5_code 74 = .ok (.ireturn, 1) := by decide +kernel
theorem d_RM_exclude_0 : decode prog_12_method_6_code 0 = .ok (.iload_n 1, 1) := by decide +kernel
theorem d_RM_exclude_1 : decode prog_12_method_6_code 1 = .ok (.bipush 16, 2) := by decide +kernel
theorem d_RM_exclude_3 : decode prog_12_method_6_code 3 = .ok (.invokestatic 94, 3) := by decide +kernel
theorem d_RM_exclude_6 : decode prog_12_method_6_code 6 = .ok (.ifCond .ne 5, 3) := by decide +kernel
theorem d_RM_exclude_11 : decode prog_12_method_6_code 11 = .ok (.aload_n 0, 1) := by decide +kernel
theorem d_RM_exclude_12 : decode prog_12_method_6_code 12 = .ok (.getfield 101, 3) := by decide +kernel
theorem d_RM_exclude_15 : decode prog_12_method_6_code 15 = .ok (.bipush 6, 2) := by decide +kernel
theorem d_RM_exclude_17 : decode prog_12_method_6_code 17 = .ok (.if_icmp .ne 6, 3) := by decide +kernel
theorem d_RM_exclude_23 : decode prog_12_method_6_code 23 = .ok (.aload_n 0, 1) := by decide +kernel
theorem d_RM_exclude_24 : decode prog_12_method_6_code 24 = .ok (.getfield 19, 3) := by decide +kernel
theorem d_RM_exclude_27 : decode prog_12_method_6_code 27 = .ok (.aload_n 0, 1) := by decide +kernel
theorem d_RM_exclude_28 : decode prog_12_method_6_code 28 = .ok (.getfield 101, 3) := by decide +kernel
theorem d_RM_exclude_31 : decode prog_12_method_6_code 31 = .ok (.iload_n 1, 1) := by decide +kernel
theorem d_RM_exclude_32 : decode prog_12_method_6_code 32 = .ok (.iastore, 1) := by decide +kernel
theorem d_RM_exclude_33 : decode prog_12_method_6_code 33 = .ok (.aload_n 0, 1) := by decide +kernel
theorem d_RM_exclude_34 : decode prog_12_method_6_code 34 = .ok (.getfield 22, 3) := by decide +kernel
theorem d_RM_exclude_37 : decode prog_12_method_6_code 37 = .ok (.aload_n 0, 1) := by decide +kernel
theorem d_RM_exclude_38 : decode prog_12_method_6_code 38 = .ok (.getfield 101, 3) := by decide +kernel
theorem d_RM_exclude_41 : decode prog_12_method_6_code 41 = .ok (.iload_n 2, 1) := by decide +kernel
theorem d_RM_exclude_42 : decode prog_12_method_6_code 42 = .ok (.iastore, 1) := by decide +kernel
theorem d_RM_exclude_43 : decode prog_12_method_6_code 43 = .ok (.aload_n 0, 1) := by decide +kernel
theorem d_RM_exclude_44 : decode prog_12_method_6_code 44 = .ok (.dup, 1) := by decide +kernel
theorem d_RM_exclude_45 : decode prog_12_method_6_code 45 = .ok (.getfield 101, 3) := by decide +kernel
theorem d_RM_exclude_48 : decode prog_12_method_6_code 48 = .ok (.iconst 1, 1) := by decide +kernel
theorem d_RM_exclude_49 : decode prog_12_method_6_code 49 = .ok (.iadd, 1) := by decide +kernel
theorem d_RM_exclude_50 : decode prog_12_method_6_code 50 = .ok (.putfield 101, 3) := by decide +kernel
theorem d_RM_exclude_53 : decode prog_12_method_6_code 53 = .ok (.aload_n 0, 1) := by decide +kernel
theorem d_RM_exclude_54 : decode prog_12_method_6_code 54 = .ok (.getfield 101, 3) := by decide +kernel
theorem d_RM_exclude_57 : decode prog_12_method_6_code 57 = .ok (.ireturn, 1) := by decide +kernel
theorem d_RM_exclude_9 : decode prog_12_method_6_code 9 = .ok (.iconst (-1), 1) := by decide +kernel
theorem d_RM_exclude_10 : decode prog_12_method_6_code 10 = .ok (.ireturn, 1) := by decide +kernel
theorem d_RM_clear_0 : decode prog_12_method_7_code 0 = .ok (.iload_n 1, 1) := by decide +kernel
theorem d_RM_clear_1 : decode prog_12_method_7_code 1 = .ok (.iconst 3, 1) := by decide +kernel
theorem d_RM_clear_2 : decode prog_12_method_7_code 2 = .ok (.invokestatic 94, 3) := by decide +kernel
theorem d_RM_clear_5 : decode prog_12_method_7_code 5 = .ok (.ifCond .ne 5, 3) := by decide +kernel
theorem d_RM_clear_10 : decode prog_12_method_7_code 10 = .ok (.iload_n 1, 1) := by decide +kernel
theorem d_RM_clear_11 : decode prog_12_method_7_code 11 = .ok (.iconst 1, 1) := by decide +kernel
theorem d_RM_clear_12 : decode prog_12_method_7_code 12 = .ok (.if_icmp .eq 8, 3) := by decide +kernel
theorem d_RM_clear_20 : decode prog_12_method_7_code 20 = .ok (.iload_n 1, 1) := by decide +kernel
