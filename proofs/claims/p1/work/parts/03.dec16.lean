theorem d_RM_run_98 : decode prog_12_method_16_code 98 = .ok (.aload_n 0, 1) := by decide +kernel
theorem d_RM_run_99 : decode prog_12_method_16_code 99 = .ok (.getfield 46, 3) := by decide +kernel
theorem d_RM_run_102 : decode prog_12_method_16_code 102 = .ok (.iload 4, 2) := by decide +kernel
theorem d_RM_run_104 : decode prog_12_method_16_code 104 = .ok (.iconst 0, 1) := by decide +kernel
theorem d_RM_run_105 : decode prog_12_method_16_code 105 = .ok (.bastore, 1) := by decide +kernel
theorem d_RM_run_106 : decode prog_12_method_16_code 106 = .ok (.iinc 4 1, 3) := by decide +kernel
theorem d_RM_run_109 : decode prog_12_method_16_code 109 = .ok (.goto (-19), 3) := by decide +kernel
theorem d_RM_run_65 : decode prog_12_method_16_code 65 = .ok (.aload_n 0, 1) := by decide +kernel
theorem d_RM_run_66 : decode prog_12_method_16_code 66 = .ok (.getfield 39, 3) := by decide +kernel
theorem d_RM_run_69 : decode prog_12_method_16_code 69 = .ok (.iload 4, 2) := by decide +kernel
theorem d_RM_run_71 : decode prog_12_method_16_code 71 = .ok (.aload_n 0, 1) := by decide +kernel
theorem d_RM_run_72 : decode prog_12_method_16_code 72 = .ok (.getfield 43, 3) := by decide +kernel
theorem d_RM_run_75 : decode prog_12_method_16_code 75 = .ok (.iload 4, 2) := by decide +kernel
theorem d_RM_run_77 : decode prog_12_method_16_code 77 = .ok (.iconst 0, 1) := by decide +kernel
theorem d_RM_run_78 : decode prog_12_method_16_code 78 = .ok (.dup_x2, 1) := by decide +kernel
theorem d_RM_run_79 : decode prog_12_method_16_code 79 = .ok (.bastore, 1) := by decide +kernel
theorem d_RM_run_80 : decode prog_12_method_16_code 80 = .ok (.bastore, 1) := by decide +kernel
theorem d_RM_run_81 : decode prog_12_method_16_code 81 = .ok (.iinc 4 1, 3) := by decide +kernel
theorem d_RM_run_84 : decode prog_12_method_16_code 84 = .ok (.goto (-27), 3) := by decide +kernel
theorem d_RM_run_26 : decode prog_12_method_16_code 26 = .ok (.bipush 6, 2) := by decide +kernel
theorem d_RM_run_28 : decode prog_12_method_16_code 28 = .ok (.goto 5, 3) := by decide +kernel
theorem d_RM_run_17 : decode prog_12_method_16_code 17 = .ok (.iconst 3, 1) := by decide +kernel
theorem d_RM_run_18 : decode prog_12_method_16_code 18 = .ok (.goto 15, 3) := by decide +kernel
