theorem d_RM_count_45 : decode prog_12_method_27_code 45 = .ok (.iinc 4 1, 3) := by decide +kernel
theorem d_RM_count_48 : decode prog_12_method_27_code 48 = .ok (.goto (-24), 3) := by decide +kernel
theorem d_RM_count_9 : decode prog_12_method_27_code 9 = .ok (.iconst (-1), 1) := by decide +kernel
theorem d_RM_count_10 : decode prog_12_method_27_code 10 = .ok (.ireturn, 1) := by decide +kernel
theorem d_RM_find_0 : decode prog_12_method_9_code 0 = .ok (.lconst 0, 1) := by decide +kernel
theorem d_RM_find_1 : decode prog_12_method_9_code 1 = .ok (.lstore_n 3, 1) := by decide +kernel
theorem d_RM_find_2 : decode prog_12_method_9_code 2 = .ok (.bipush 56, 2) := by decide +kernel
theorem d_RM_find_4 : decode prog_12_method_9_code 4 = .ok (.istore 5, 2) := by decide +kernel
theorem d_RM_find_6 : decode prog_12_method_9_code 6 = .ok (.iload 5, 2) := by decide +kernel
theorem d_RM_find_8 : decode prog_12_method_9_code 8 = .ok (.ifCond .lt 34, 3) := by decide +kernel
theorem d_RM_find_42 : decode prog_12_method_9_code 42 = .ok (.iconst 0, 1) := by decide +kernel
theorem d_RM_find_43 : decode prog_12_method_9_code 43 = .ok (.istore 5, 2) := by decide +kernel
theorem d_RM_find_45 : decode prog_12_method_9_code 45 = .ok (.iload 5, 2) := by decide +kernel
theorem d_RM_find_47 : decode prog_12_method_9_code 47 = .ok (.bipush 16, 2) := by decide +kernel
theorem d_RM_find_49 : decode prog_12_method_9_code 49 = .ok (.if_icmp .ge 22, 3) := by decide +kernel
theorem d_RM_find_71 : decode prog_12_method_9_code 71 = .ok (.iconst (-1), 1) := by decide +kernel
theorem d_RM_find_72 : decode prog_12_method_9_code 72 = .ok (.ireturn, 1) := by decide +kernel
theorem d_RM_find_52 : decode prog_12_method_9_code 52 = .ok (.iload 5, 2) := by decide +kernel
theorem d_RM_find_54 : decode prog_12_method_9_code 54 = .ok (.invokestatic 106, 3) := by decide +kernel
theorem d_RM_find_57 : decode prog_12_method_9_code 57 = .ok (.lload_n 3, 1) := by decide +kernel
theorem d_RM_find_58 : decode prog_12_method_9_code 58 = .ok (.lcmp, 1) := by decide +kernel
theorem d_RM_find_59 : decode prog_12_method_9_code 59 = .ok (.ifCond .ne 6, 3) := by decide +kernel
theorem d_RM_find_65 : decode prog_12_method_9_code 65 = .ok (.iinc 5 1, 3) := by decide +kernel
theorem d_RM_find_68 : decode prog_12_method_9_code 68 = .ok (.goto (-23), 3) := by decide +kernel
theorem d_RM_find_62 : decode prog_12_method_9_code 62 = .ok (.iload 5, 2) := by decide +kernel
theorem d_RM_find_64 : decode prog_12_method_9_code 64 = .ok (.ireturn, 1) := by decide +kernel
theorem d_RM_find_11 : decode prog_12_method_9_code 11 = .ok (.lload_n 1, 1) := by decide +kernel
theorem d_RM_find_12 : decode prog_12_method_9_code 12 = .ok (.iload 5, 2) := by decide +kernel
theorem d_RM_find_14 : decode prog_12_method_9_code 14 = .ok (.lushr, 1) := by decide +kernel
theorem d_RM_find_15 : decode prog_12_method_9_code 15 = .ok (.ldc2_w 104, 3) := by decide +kernel
theorem d_RM_find_18 : decode prog_12_method_9_code 18 = .ok (.land, 1) := by decide +kernel
theorem d_RM_find_19 : decode prog_12_method_9_code 19 = .ok (.lstore 6, 2) := by decide +kernel
theorem d_RM_find_21 : decode prog_12_method_9_code 21 = .ok (.lload 6, 2) := by decide +kernel
theorem d_RM_find_23 : decode prog_12_method_9_code 23 = .ok (.lconst 0, 1) := by decide +kernel
theorem d_RM_find_24 : decode prog_12_method_9_code 24 = .ok (.lcmp, 1) := by decide +kernel
theorem d_RM_find_25 : decode prog_12_method_9_code 25 = .ok (.ifCond .eq 11, 3) := by decide +kernel
theorem d_RM_find_36 : decode prog_12_method_9_code 36 = .ok (.iinc 5 (-8), 3) := by decide +kernel
theorem d_RM_find_39 : decode prog_12_method_9_code 39 = .ok (.goto (-33), 3) := by decide +kernel
theorem d_RM_find_28 : decode prog_12_method_9_code 28 = .ok (.lload_n 3, 1) := by decide +kernel
theorem d_RM_find_29 : decode prog_12_method_9_code 29 = .ok (.bipush 8, 2) := by decide +kernel
theorem d_RM_find_31 : decode prog_12_method_9_code 31 = .ok (.lshl, 1) := by decide +kernel
theorem d_RM_find_32 : decode prog_12_method_9_code 32 = .ok (.lload 6, 2) := by decide +kernel
theorem d_RM_find_34 : decode prog_12_method_9_code 34 = .ok (.lor, 1) := by decide +kernel
theorem d_RM_find_35 : decode prog_12_method_9_code 35 = .ok (.lstore_n 3, 1) := by decide +kernel
theorem d_RM_take_0 : decode prog_12_method_15_code 0 = .ok (.iload_n 2, 1) := by decide +kernel
theorem d_RM_take_1 : decode prog_12_method_15_code 1 = .ok (.invokestatic 145, 3) := by decide +kernel
theorem d_RM_take_4 : decode prog_12_method_15_code 4 = .ok (.istore 4, 2) := by decide +kernel
theorem d_RM_take_6 : decode prog_12_method_15_code 6 = .ok (.iload_n 3, 1) := by decide +kernel
theorem d_RM_take_7 : decode prog_12_method_15_code 7 = .ok (.invokestatic 145, 3) := by decide +kernel
theorem d_RM_take_10 : decode prog_12_method_15_code 10 = .ok (.istore 5, 2) := by decide +kernel
theorem d_RM_take_84 : decode prog_12_method_15_code 84 = .ok (.aload_n 0, 1) := by decide +kernel
theorem d_RM_take_85 : decode prog_12_method_15_code 85 = .ok (.getfield 39, 3) := by decide +kernel
theorem d_RM_take_88 : decode prog_12_method_15_code 88 = .ok (.iload_n 1, 1) := by decide +kernel
theorem d_RM_take_89 : decode prog_12_method_15_code 89 = .ok (.bipush 12, 2) := by decide +kernel
theorem d_RM_take_91 : decode prog_12_method_15_code 91 = .ok (.imul, 1) := by decide +kernel
theorem d_RM_take_92 : decode prog_12_method_15_code 92 = .ok (.iload_n 2, 1) := by decide +kernel
theorem d_RM_take_93 : decode prog_12_method_15_code 93 = .ok (.iadd, 1) := by decide +kernel
theorem d_RM_take_94 : decode prog_12_method_15_code 94 = .ok (.aload_n 0, 1) := by decide +kernel
theorem d_RM_take_95 : decode prog_12_method_15_code 95 = .ok (.getfield 43, 3) := by decide +kernel
theorem d_RM_take_98 : decode prog_12_method_15_code 98 = .ok (.iload_n 1, 1) := by decide +kernel
theorem d_RM_take_99 : decode prog_12_method_15_code 99 = .ok (.bipush 12, 2) := by decide +kernel
theorem d_RM_take_101 : decode prog_12_method_15_code 101 = .ok (.imul, 1) := by decide +kernel
theorem d_RM_take_102 : decode prog_12_method_15_code 102 = .ok (.iload_n 3, 1) := by decide +kernel
theorem d_RM_take_103 : decode prog_12_method_15_code 103 = .ok (.iadd, 1) := by decide +kernel
theorem d_RM_take_104 : decode prog_12_method_15_code 104 = .ok (.aload_n 0, 1) := by decide +kernel
theorem d_RM_take_105 : decode prog_12_method_15_code 105 = .ok (.getfield 46, 3) := by decide +kernel
theorem d_RM_take_108 : decode prog_12_method_15_code 108 = .ok (.iload_n 2, 1) := by decide +kernel
theorem d_RM_take_109 : decode prog_12_method_15_code 109 = .ok (.bipush 12, 2) := by decide +kernel
theorem d_RM_take_111 : decode prog_12_method_15_code 111 = .ok (.imul, 1) := by decide +kernel
theorem d_RM_take_112 : decode prog_12_method_15_code 112 = .ok (.iload_n 3, 1) := by decide +kernel
theorem d_RM_take_113 : decode prog_12_method_15_code 113 = .ok (.iadd, 1) := by decide +kernel
theorem d_RM_take_114 : decode prog_12_method_15_code 114 = .ok (.iconst 1, 1) := by decide +kernel
theorem d_RM_take_115 : decode prog_12_method_15_code 115 = .ok (.dup_x2, 1) := by decide +kernel
theorem d_RM_take_116 : decode prog_12_method_15_code 116 = .ok (.bastore, 1) := by decide +kernel
theorem d_RM_take_117 : decode prog_12_method_15_code 117 = .ok (.dup_x2, 1) := by decide +kernel
theorem d_RM_take_118 : decode prog_12_method_15_code 118 = .ok (.bastore, 1) := by decide +kernel
theorem d_RM_take_119 : decode prog_12_method_15_code 119 = .ok (.bastore, 1) := by decide +kernel
theorem d_RM_take_120 : decode prog_12_method_15_code 120 = .ok (.aload_n 0, 1) := by decide +kernel
theorem d_RM_take_121 : decode prog_12_method_15_code 121 = .ok (.dup, 1) := by decide +kernel
theorem d_RM_take_122 : decode prog_12_method_15_code 122 = .ok (.getfield 152, 3) := by decide +kernel
theorem d_RM_take_125 : decode prog_12_method_15_code 125 = .ok (.iconst 1, 1) := by decide +kernel
theorem d_RM_take_126 : decode prog_12_method_15_code 126 = .ok (.iadd, 1) := by decide +kernel
theorem d_RM_take_127 : decode prog_12_method_15_code 127 = .ok (.putfield 152, 3) := by decide +kernel
theorem d_RM_take_130 : decode prog_12_method_15_code 130 = .ok (.aload_n 0, 1) := by decide +kernel
theorem d_RM_take_131 : decode prog_12_method_15_code 131 = .ok (.getfield 30, 3) := by decide +kernel
theorem d_RM_take_134 : decode prog_12_method_15_code 134 = .ok (.iload_n 1, 1) := by decide +kernel
theorem d_RM_take_135 : decode prog_12_method_15_code 135 = .ok (.dup2, 1) := by decide +kernel
theorem d_RM_take_136 : decode prog_12_method_15_code 136 = .ok (.iaload, 1) := by decide +kernel
theorem d_RM_take_137 : decode prog_12_method_15_code 137 = .ok (.iconst 1, 1) := by decide +kernel
theorem d_RM_take_138 : decode prog_12_method_15_code 138 = .ok (.iadd, 1) := by decide +kernel
theorem d_RM_take_139 : decode prog_12_method_15_code 139 = .ok (.iastore, 1) := by decide +kernel
theorem d_RM_take_140 : decode prog_12_method_15_code 140 = .ok (.iload_n 1, 1) := by decide +kernel
theorem d_RM_take_141 : decode prog_12_method_15_code 141 = .ok (.iload 4, 2) := by decide +kernel
theorem d_RM_take_143 : decode prog_12_method_15_code 143 = .ok (.iload 5, 2) := by decide +kernel
theorem d_RM_take_145 : decode prog_12_method_15_code 145 = .ok (.invokestatic 132, 3) := by decide +kernel
theorem d_RM_take_148 : decode prog_12_method_15_code 148 = .ok (.lstore 6, 2) := by decide +kernel
theorem d_RM_take_150 : decode prog_12_method_15_code 150 = .ok (.aload_n 0, 1) := by decide +kernel
theorem d_RM_take_151 : decode prog_12_method_15_code 151 = .ok (.iload_n 1, 1) := by decide +kernel
theorem d_RM_take_152 : decode prog_12_method_15_code 152 = .ok (.iload 4, 2) := by decide +kernel
theorem d_RM_take_154 : decode prog_12_method_15_code 154 = .ok (.iload 5, 2) := by decide +kernel
theorem d_RM_take_156 : decode prog_12_method_15_code 156 = .ok (.invokevirtual 142, 3) := by decide +kernel
theorem d_RM_take_159 : decode prog_12_method_15_code 159 = .ok (.lstore 8, 2) := by decide +kernel
theorem d_RM_take_217 : decode prog_12_method_15_code 217 = .ok (.lload 6, 2) := by decide +kernel
theorem d_RM_take_219 : decode prog_12_method_15_code 219 = .ok (.lload 8, 2) := by decide +kernel
theorem d_RM_take_221 : decode prog_12_method_15_code 221 = .ok (.lcmp, 1) := by decide +kernel
theorem d_RM_take_222 : decode prog_12_method_15_code 222 = .ok (.ifCond .ne 4, 3) := by decide +kernel
theorem d_RM_take_225 : decode prog_12_method_15_code 225 = .ok (.return_, 1) := by decide +kernel
theorem d_RM_take_161 : decode prog_12_method_15_code 161 = .ok (.aload_n 0, 1) := by decide +kernel
theorem d_RM_take_162 : decode prog_12_method_15_code 162 = .ok (.getfield 36, 3) := by decide +kernel
theorem d_RM_take_165 : decode prog_12_method_15_code 165 = .ok (.iload_n 1, 1) := by decide +kernel
theorem d_RM_take_166 : decode prog_12_method_15_code 166 = .ok (.aload_n 0, 1) := by decide +kernel
theorem d_RM_take_167 : decode prog_12_method_15_code 167 = .ok (.getfield 36, 3) := by decide +kernel
theorem d_RM_take_170 : decode prog_12_method_15_code 170 = .ok (.iload_n 1, 1) := by decide +kernel
theorem d_RM_take_171 : decode prog_12_method_15_code 171 = .ok (.iaload, 1) := by decide +kernel
theorem d_RM_take_172 : decode prog_12_method_15_code 172 = .ok (.lload 8, 2) := by decide +kernel
theorem d_RM_take_174 : decode prog_12_method_15_code 174 = .ok (.invokestatic 136, 3) := by decide +kernel
theorem d_RM_take_177 : decode prog_12_method_15_code 177 = .ok (.ifCond .eq 15, 3) := by decide +kernel
theorem d_RM_take_192 : decode prog_12_method_15_code 192 = .ok (.lload 8, 2) := by decide +kernel
theorem d_RM_take_194 : decode prog_12_method_15_code 194 = .ok (.lconst 0, 1) := by decide +kernel
theorem d_RM_take_195 : decode prog_12_method_15_code 195 = .ok (.lcmp, 1) := by decide +kernel
theorem d_RM_take_196 : decode prog_12_method_15_code 196 = .ok (.ifCond .ge 7, 3) := by decide +kernel
theorem d_RM_take_203 : decode prog_12_method_15_code 203 = .ok (.lload 8, 2) := by decide +kernel
theorem d_RM_take_205 : decode prog_12_method_15_code 205 = .ok (.lconst 0, 1) := by decide +kernel
theorem d_RM_take_206 : decode prog_12_method_15_code 206 = .ok (.lcmp, 1) := by decide +kernel
theorem d_RM_take_207 : decode prog_12_method_15_code 207 = .ok (.ifCond .ne 7, 3) := by decide +kernel
theorem d_RM_take_214 : decode prog_12_method_15_code 214 = .ok (.iconst 4, 1) := by decide +kernel
theorem d_RM_take_215 : decode prog_12_method_15_code 215 = .ok (.ior, 1) := by decide +kernel
theorem d_RM_take_216 : decode prog_12_method_15_code 216 = .ok (.iastore, 1) := by decide +kernel
theorem d_RM_take_210 : decode prog_12_method_15_code 210 = .ok (.iconst 2, 1) := by decide +kernel
theorem d_RM_take_211 : decode prog_12_method_15_code 211 = .ok (.goto 4, 3) := by decide +kernel
theorem d_RM_take_199 : decode prog_12_method_15_code 199 = .ok (.iconst 1, 1) := by decide +kernel
theorem d_RM_take_200 : decode prog_12_method_15_code 200 = .ok (.goto 15, 3) := by decide +kernel
theorem d_RM_take_180 : decode prog_12_method_15_code 180 = .ok (.iconst 4, 1) := by decide +kernel
theorem d_RM_take_181 : decode prog_12_method_15_code 181 = .ok (.lload 8, 2) := by decide +kernel
theorem d_RM_take_183 : decode prog_12_method_15_code 183 = .ok (.ldc2_w 110, 3) := by decide +kernel
theorem d_RM_take_186 : decode prog_12_method_15_code 186 = .ok (.ldiv, 1) := by decide +kernel
theorem d_RM_take_187 : decode prog_12_method_15_code 187 = .ok (.l2i, 1) := by decide +kernel
theorem d_RM_take_188 : decode prog_12_method_15_code 188 = .ok (.ishl, 1) := by decide +kernel
theorem d_RM_take_189 : decode prog_12_method_15_code 189 = .ok (.goto 26, 3) := by decide +kernel
theorem d_RM_take_12 : decode prog_12_method_15_code 12 = .ok (.aload_n 0, 1) := by decide +kernel
theorem d_RM_take_13 : decode prog_12_method_15_code 13 = .ok (.getfield 39, 3) := by decide +kernel
theorem d_RM_take_16 : decode prog_12_method_15_code 16 = .ok (.iload_n 1, 1) := by decide +kernel
theorem d_RM_take_17 : decode prog_12_method_15_code 17 = .ok (.bipush 12, 2) := by decide +kernel
theorem d_RM_take_19 : decode prog_12_method_15_code 19 = .ok (.imul, 1) := by decide +kernel
theorem d_RM_take_20 : decode prog_12_method_15_code 20 = .ok (.iload_n 2, 1) := by decide +kernel
theorem d_RM_take_21 : decode prog_12_method_15_code 21 = .ok (.iadd, 1) := by decide +kernel
theorem d_RM_take_22 : decode prog_12_method_15_code 22 = .ok (.baload, 1) := by decide +kernel
theorem d_RM_take_23 : decode prog_12_method_15_code 23 = .ok (.ifCond .ne 13, 3) := by decide +kernel
theorem d_RM_take_36 : decode prog_12_method_15_code 36 = .ok (.aload_n 0, 1) := by decide +kernel
theorem d_RM_take_37 : decode prog_12_method_15_code 37 = .ok (.getfield 43, 3) := by decide +kernel
theorem d_RM_take_40 : decode prog_12_method_15_code 40 = .ok (.iload_n 1, 1) := by decide +kernel
theorem d_RM_take_41 : decode prog_12_method_15_code 41 = .ok (.bipush 12, 2) := by decide +kernel
theorem d_RM_take_43 : decode prog_12_method_15_code 43 = .ok (.imul, 1) := by decide +kernel
theorem d_RM_take_44 : decode prog_12_method_15_code 44 = .ok (.iload_n 3, 1) := by decide +kernel
theorem d_RM_take_45 : decode prog_12_method_15_code 45 = .ok (.iadd, 1) := by decide +kernel
theorem d_RM_take_46 : decode prog_12_method_15_code 46 = .ok (.baload, 1) := by decide +kernel
theorem d_RM_take_47 : decode prog_12_method_15_code 47 = .ok (.ifCond .ne 13, 3) := by decide +kernel
theorem d_RM_take_60 : decode prog_12_method_15_code 60 = .ok (.aload_n 0, 1) := by decide +kernel
theorem d_RM_take_61 : decode prog_12_method_15_code 61 = .ok (.getfield 46, 3) := by decide +kernel
theorem d_RM_take_64 : decode prog_12_method_15_code 64 = .ok (.iload_n 2, 1) := by decide +kernel
