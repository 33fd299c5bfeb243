theorem d_RM_take_65 : decode prog_12_method_15_code 65 = .ok (.bipush 12, 2) := by decide +kernel
theorem d_RM_take_67 : decode prog_12_method_15_code 67 = .ok (.imul, 1) := by decide +kernel
theorem d_RM_take_68 : decode prog_12_method_15_code 68 = .ok (.iload_n 3, 1) := by decide +kernel
theorem d_RM_take_69 : decode prog_12_method_15_code 69 = .ok (.iadd, 1) := by decide +kernel
theorem d_RM_take_70 : decode prog_12_method_15_code 70 = .ok (.baload, 1) := by decide +kernel
theorem d_RM_take_71 : decode prog_12_method_15_code 71 = .ok (.ifCond .ne 13, 3) := by decide +kernel
theorem d_RM_take_74 : decode prog_12_method_15_code 74 = .ok (.aload_n 0, 1) := by decide +kernel
theorem d_RM_take_75 : decode prog_12_method_15_code 75 = .ok (.dup, 1) := by decide +kernel
theorem d_RM_take_76 : decode prog_12_method_15_code 76 = .ok (.getfield 149, 3) := by decide +kernel
theorem d_RM_take_79 : decode prog_12_method_15_code 79 = .ok (.iconst 1, 1) := by decide +kernel
theorem d_RM_take_80 : decode prog_12_method_15_code 80 = .ok (.iadd, 1) := by decide +kernel
theorem d_RM_take_81 : decode prog_12_method_15_code 81 = .ok (.putfield 149, 3) := by decide +kernel
theorem d_RM_take_50 : decode prog_12_method_15_code 50 = .ok (.aload_n 0, 1) := by decide +kernel
theorem d_RM_take_51 : decode prog_12_method_15_code 51 = .ok (.dup, 1) := by decide +kernel
theorem d_RM_take_52 : decode prog_12_method_15_code 52 = .ok (.getfield 149, 3) := by decide +kernel
theorem d_RM_take_55 : decode prog_12_method_15_code 55 = .ok (.iconst 1, 1) := by decide +kernel
theorem d_RM_take_56 : decode prog_12_method_15_code 56 = .ok (.iadd, 1) := by decide +kernel
theorem d_RM_take_57 : decode prog_12_method_15_code 57 = .ok (.putfield 149, 3) := by decide +kernel
theorem d_RM_take_26 : decode prog_12_method_15_code 26 = .ok (.aload_n 0, 1) := by decide +kernel
theorem d_RM_take_27 : decode prog_12_method_15_code 27 = .ok (.dup, 1) := by decide +kernel
theorem d_RM_take_28 : decode prog_12_method_15_code 28 = .ok (.getfield 149, 3) := by decide +kernel
theorem d_RM_take_31 : decode prog_12_method_15_code 31 = .ok (.iconst 1, 1) := by decide +kernel
theorem d_RM_take_32 : decode prog_12_method_15_code 32 = .ok (.iadd, 1) := by decide +kernel
theorem d_RM_take_33 : decode prog_12_method_15_code 33 = .ok (.putfield 149, 3) := by decide +kernel
theorem d_RM_run_0 : decode prog_12_method_16_code 0 = .ok (.iload_n 1, 1) := by decide +kernel
theorem d_RM_run_1 : decode prog_12_method_16_code 1 = .ok (.iconst 1, 1) := by decide +kernel
theorem d_RM_run_2 : decode prog_12_method_16_code 2 = .ok (.if_icmp .lt 8, 3) := by decide +kernel
theorem d_RM_run_10 : decode prog_12_method_16_code 10 = .ok (.iconst (-1), 1) := by decide +kernel
theorem d_RM_run_11 : decode prog_12_method_16_code 11 = .ok (.ireturn, 1) := by decide +kernel
theorem d_RM_run_5 : decode prog_12_method_16_code 5 = .ok (.iload_n 1, 1) := by decide +kernel
theorem d_RM_run_6 : decode prog_12_method_16_code 6 = .ok (.iconst 3, 1) := by decide +kernel
theorem d_RM_run_7 : decode prog_12_method_16_code 7 = .ok (.if_icmp .le 5, 3) := by decide +kernel
theorem d_RM_run_12 : decode prog_12_method_16_code 12 = .ok (.iload_n 1, 1) := by decide +kernel
theorem d_RM_run_13 : decode prog_12_method_16_code 13 = .ok (.iconst 1, 1) := by decide +kernel
theorem d_RM_run_14 : decode prog_12_method_16_code 14 = .ok (.if_icmp .ne 7, 3) := by decide +kernel
theorem d_RM_run_21 : decode prog_12_method_16_code 21 = .ok (.iload_n 1, 1) := by decide +kernel
theorem d_RM_run_22 : decode prog_12_method_16_code 22 = .ok (.iconst 2, 1) := by decide +kernel
theorem d_RM_run_23 : decode prog_12_method_16_code 23 = .ok (.if_icmp .ne 8, 3) := by decide +kernel
theorem d_RM_run_31 : decode prog_12_method_16_code 31 = .ok (.bipush 12, 2) := by decide +kernel
theorem d_RM_run_33 : decode prog_12_method_16_code 33 = .ok (.istore_n 3, 1) := by decide +kernel
theorem d_RM_run_34 : decode prog_12_method_16_code 34 = .ok (.aload_n 0, 1) := by decide +kernel
theorem d_RM_run_35 : decode prog_12_method_16_code 35 = .ok (.aload_n 0, 1) := by decide +kernel
theorem d_RM_run_36 : decode prog_12_method_16_code 36 = .ok (.aload_n 0, 1) := by decide +kernel
theorem d_RM_run_37 : decode prog_12_method_16_code 37 = .ok (.aload_n 0, 1) := by decide +kernel
theorem d_RM_run_38 : decode prog_12_method_16_code 38 = .ok (.iconst 0, 1) := by decide +kernel
theorem d_RM_run_39 : decode prog_12_method_16_code 39 = .ok (.dup_x1, 1) := by decide +kernel
theorem d_RM_run_40 : decode prog_12_method_16_code 40 = .ok (.putfield 149, 3) := by decide +kernel
theorem d_RM_run_43 : decode prog_12_method_16_code 43 = .ok (.dup_x1, 1) := by decide +kernel
theorem d_RM_run_44 : decode prog_12_method_16_code 44 = .ok (.putfield 158, 3) := by decide +kernel
theorem d_RM_run_47 : decode prog_12_method_16_code 47 = .ok (.dup_x1, 1) := by decide +kernel
theorem d_RM_run_48 : decode prog_12_method_16_code 48 = .ok (.putfield 155, 3) := by decide +kernel
theorem d_RM_run_51 : decode prog_12_method_16_code 51 = .ok (.putfield 152, 3) := by decide +kernel
theorem d_RM_run_54 : decode prog_12_method_16_code 54 = .ok (.iconst 0, 1) := by decide +kernel
theorem d_RM_run_55 : decode prog_12_method_16_code 55 = .ok (.istore 4, 2) := by decide +kernel
theorem d_RM_run_57 : decode prog_12_method_16_code 57 = .ok (.iload 4, 2) := by decide +kernel
theorem d_RM_run_59 : decode prog_12_method_16_code 59 = .ok (.sipush 192, 3) := by decide +kernel
theorem d_RM_run_62 : decode prog_12_method_16_code 62 = .ok (.if_icmp .ge 25, 3) := by decide +kernel
theorem d_RM_run_87 : decode prog_12_method_16_code 87 = .ok (.iconst 0, 1) := by decide +kernel
theorem d_RM_run_88 : decode prog_12_method_16_code 88 = .ok (.istore 4, 2) := by decide +kernel
theorem d_RM_run_90 : decode prog_12_method_16_code 90 = .ok (.iload 4, 2) := by decide +kernel
theorem d_RM_run_92 : decode prog_12_method_16_code 92 = .ok (.sipush 144, 3) := by decide +kernel
theorem d_RM_run_95 : decode prog_12_method_16_code 95 = .ok (.if_icmp .ge 17, 3) := by decide +kernel
theorem d_RM_run_112 : decode prog_12_method_16_code 112 = .ok (.iconst 0, 1) := by decide +kernel
theorem d_RM_run_113 : decode prog_12_method_16_code 113 = .ok (.istore 4, 2) := by decide +kernel
theorem d_RM_run_115 : decode prog_12_method_16_code 115 = .ok (.iload 4, 2) := by decide +kernel
theorem d_RM_run_117 : decode prog_12_method_16_code 117 = .ok (.bipush 16, 2) := by decide +kernel
theorem d_RM_run_119 : decode prog_12_method_16_code 119 = .ok (.if_icmp .ge 171, 3) := by decide +kernel
theorem d_RM_run_290 : decode prog_12_method_16_code 290 = .ok (.aload_n 0, 1) := by decide +kernel
theorem d_RM_run_291 : decode prog_12_method_16_code 291 = .ok (.dup, 1) := by decide +kernel
theorem d_RM_run_292 : decode prog_12_method_16_code 292 = .ok (.getfield 169, 3) := by decide +kernel
theorem d_RM_run_295 : decode prog_12_method_16_code 295 = .ok (.iconst 1, 1) := by decide +kernel
theorem d_RM_run_296 : decode prog_12_method_16_code 296 = .ok (.iadd, 1) := by decide +kernel
theorem d_RM_run_297 : decode prog_12_method_16_code 297 = .ok (.putfield 169, 3) := by decide +kernel
theorem d_RM_run_300 : decode prog_12_method_16_code 300 = .ok (.aload_n 0, 1) := by decide +kernel
theorem d_RM_run_301 : decode prog_12_method_16_code 301 = .ok (.getfield 155, 3) := by decide +kernel
theorem d_RM_run_304 : decode prog_12_method_16_code 304 = .ok (.ireturn, 1) := by decide +kernel
theorem d_RM_run_122 : decode prog_12_method_16_code 122 = .ok (.aload_n 0, 1) := by decide +kernel
theorem d_RM_run_123 : decode prog_12_method_16_code 123 = .ok (.getfield 30, 3) := by decide +kernel
theorem d_RM_run_126 : decode prog_12_method_16_code 126 = .ok (.iload 4, 2) := by decide +kernel
theorem d_RM_run_128 : decode prog_12_method_16_code 128 = .ok (.aload_n 0, 1) := by decide +kernel
theorem d_RM_run_129 : decode prog_12_method_16_code 129 = .ok (.getfield 33, 3) := by decide +kernel
theorem d_RM_run_132 : decode prog_12_method_16_code 132 = .ok (.iload 4, 2) := by decide +kernel
theorem d_RM_run_134 : decode prog_12_method_16_code 134 = .ok (.aload_n 0, 1) := by decide +kernel
theorem d_RM_run_135 : decode prog_12_method_16_code 135 = .ok (.getfield 36, 3) := by decide +kernel
theorem d_RM_run_138 : decode prog_12_method_16_code 138 = .ok (.iload 4, 2) := by decide +kernel
theorem d_RM_run_140 : decode prog_12_method_16_code 140 = .ok (.iconst 0, 1) := by decide +kernel
theorem d_RM_run_141 : decode prog_12_method_16_code 141 = .ok (.dup_x2, 1) := by decide +kernel
theorem d_RM_run_142 : decode prog_12_method_16_code 142 = .ok (.iastore, 1) := by decide +kernel
theorem d_RM_run_143 : decode prog_12_method_16_code 143 = .ok (.dup_x2, 1) := by decide +kernel
theorem d_RM_run_144 : decode prog_12_method_16_code 144 = .ok (.iastore, 1) := by decide +kernel
theorem d_RM_run_145 : decode prog_12_method_16_code 145 = .ok (.iastore, 1) := by decide +kernel
theorem d_RM_run_146 : decode prog_12_method_16_code 146 = .ok (.aload_n 0, 1) := by decide +kernel
theorem d_RM_run_147 : decode prog_12_method_16_code 147 = .ok (.getfield 26, 3) := by decide +kernel
theorem d_RM_run_150 : decode prog_12_method_16_code 150 = .ok (.iload 4, 2) := by decide +kernel
theorem d_RM_run_152 : decode prog_12_method_16_code 152 = .ok (.ishr, 1) := by decide +kernel
theorem d_RM_run_153 : decode prog_12_method_16_code 153 = .ok (.iconst 1, 1) := by decide +kernel
theorem d_RM_run_154 : decode prog_12_method_16_code 154 = .ok (.iand, 1) := by decide +kernel
theorem d_RM_run_155 : decode prog_12_method_16_code 155 = .ok (.ifCond .ne 6, 3) := by decide +kernel
theorem d_RM_run_161 : decode prog_12_method_16_code 161 = .ok (.iconst 0, 1) := by decide +kernel
theorem d_RM_run_162 : decode prog_12_method_16_code 162 = .ok (.istore 5, 2) := by decide +kernel
theorem d_RM_run_164 : decode prog_12_method_16_code 164 = .ok (.iload 5, 2) := by decide +kernel
theorem d_RM_run_166 : decode prog_12_method_16_code 166 = .ok (.iload_n 3, 1) := by decide +kernel
theorem d_RM_run_167 : decode prog_12_method_16_code 167 = .ok (.iload_n 3, 1) := by decide +kernel
theorem d_RM_run_168 : decode prog_12_method_16_code 168 = .ok (.imul, 1) := by decide +kernel
theorem d_RM_run_169 : decode prog_12_method_16_code 169 = .ok (.if_icmp .ge 115, 3) := by decide +kernel
theorem d_RM_run_284 : decode prog_12_method_16_code 284 = .ok (.iinc 4 1, 3) := by decide +kernel
theorem d_RM_run_287 : decode prog_12_method_16_code 287 = .ok (.goto (-172), 3) := by decide +kernel
theorem d_RM_run_172 : decode prog_12_method_16_code 172 = .ok (.iload 5, 2) := by decide +kernel
theorem d_RM_run_174 : decode prog_12_method_16_code 174 = .ok (.iload_n 3, 1) := by decide +kernel
theorem d_RM_run_175 : decode prog_12_method_16_code 175 = .ok (.idiv, 1) := by decide +kernel
theorem d_RM_run_176 : decode prog_12_method_16_code 176 = .ok (.istore 6, 2) := by decide +kernel
theorem d_RM_run_178 : decode prog_12_method_16_code 178 = .ok (.iload 5, 2) := by decide +kernel
theorem d_RM_run_180 : decode prog_12_method_16_code 180 = .ok (.iload_n 3, 1) := by decide +kernel
theorem d_RM_run_181 : decode prog_12_method_16_code 181 = .ok (.irem, 1) := by decide +kernel
theorem d_RM_run_182 : decode prog_12_method_16_code 182 = .ok (.istore 7, 2) := by decide +kernel
theorem d_RM_run_184 : decode prog_12_method_16_code 184 = .ok (.aload_n 0, 1) := by decide +kernel
theorem d_RM_run_185 : decode prog_12_method_16_code 185 = .ok (.iload 4, 2) := by decide +kernel
theorem d_RM_run_187 : decode prog_12_method_16_code 187 = .ok (.iload 6, 2) := by decide +kernel
theorem d_RM_run_189 : decode prog_12_method_16_code 189 = .ok (.invokestatic 145, 3) := by decide +kernel
theorem d_RM_run_192 : decode prog_12_method_16_code 192 = .ok (.iload 7, 2) := by decide +kernel
theorem d_RM_run_194 : decode prog_12_method_16_code 194 = .ok (.invokestatic 145, 3) := by decide +kernel
theorem d_RM_run_197 : decode prog_12_method_16_code 197 = .ok (.invokevirtual 161, 3) := by decide +kernel
theorem d_RM_run_200 : decode prog_12_method_16_code 200 = .ok (.ifCond .eq 16, 3) := by decide +kernel
theorem d_RM_run_216 : decode prog_12_method_16_code 216 = .ok (.iload_n 2, 1) := by decide +kernel
theorem d_RM_run_217 : decode prog_12_method_16_code 217 = .ok (.ifCond .eq 51, 3) := by decide +kernel
theorem d_RM_run_268 : decode prog_12_method_16_code 268 = .ok (.aload_n 0, 1) := by decide +kernel
theorem d_RM_run_269 : decode prog_12_method_16_code 269 = .ok (.iload 4, 2) := by decide +kernel
theorem d_RM_run_271 : decode prog_12_method_16_code 271 = .ok (.iload 6, 2) := by decide +kernel
theorem d_RM_run_273 : decode prog_12_method_16_code 273 = .ok (.iload 7, 2) := by decide +kernel
theorem d_RM_run_275 : decode prog_12_method_16_code 275 = .ok (.invokevirtual 165, 3) := by decide +kernel
theorem d_RM_run_278 : decode prog_12_method_16_code 278 = .ok (.iinc 5 1, 3) := by decide +kernel
theorem d_RM_run_281 : decode prog_12_method_16_code 281 = .ok (.goto (-117), 3) := by decide +kernel
theorem d_RM_run_220 : decode prog_12_method_16_code 220 = .ok (.aload_n 0, 1) := by decide +kernel
theorem d_RM_run_221 : decode prog_12_method_16_code 221 = .ok (.getfield 39, 3) := by decide +kernel
theorem d_RM_run_224 : decode prog_12_method_16_code 224 = .ok (.iload 4, 2) := by decide +kernel
theorem d_RM_run_226 : decode prog_12_method_16_code 226 = .ok (.bipush 12, 2) := by decide +kernel
theorem d_RM_run_228 : decode prog_12_method_16_code 228 = .ok (.imul, 1) := by decide +kernel
theorem d_RM_run_229 : decode prog_12_method_16_code 229 = .ok (.iload 6, 2) := by decide +kernel
theorem d_RM_run_231 : decode prog_12_method_16_code 231 = .ok (.iadd, 1) := by decide +kernel
theorem d_RM_run_232 : decode prog_12_method_16_code 232 = .ok (.baload, 1) := by decide +kernel
theorem d_RM_run_233 : decode prog_12_method_16_code 233 = .ok (.ifCond .eq 35, 3) := by decide +kernel
theorem d_RM_run_236 : decode prog_12_method_16_code 236 = .ok (.aload_n 0, 1) := by decide +kernel
theorem d_RM_run_237 : decode prog_12_method_16_code 237 = .ok (.getfield 43, 3) := by decide +kernel
theorem d_RM_run_240 : decode prog_12_method_16_code 240 = .ok (.iload 4, 2) := by decide +kernel
theorem d_RM_run_242 : decode prog_12_method_16_code 242 = .ok (.bipush 12, 2) := by decide +kernel
theorem d_RM_run_244 : decode prog_12_method_16_code 244 = .ok (.imul, 1) := by decide +kernel
theorem d_RM_run_245 : decode prog_12_method_16_code 245 = .ok (.iload 7, 2) := by decide +kernel
theorem d_RM_run_247 : decode prog_12_method_16_code 247 = .ok (.iadd, 1) := by decide +kernel
theorem d_RM_run_248 : decode prog_12_method_16_code 248 = .ok (.baload, 1) := by decide +kernel
theorem d_RM_run_249 : decode prog_12_method_16_code 249 = .ok (.ifCond .eq 19, 3) := by decide +kernel
theorem d_RM_run_252 : decode prog_12_method_16_code 252 = .ok (.aload_n 0, 1) := by decide +kernel
theorem d_RM_run_253 : decode prog_12_method_16_code 253 = .ok (.getfield 46, 3) := by decide +kernel
theorem d_RM_run_256 : decode prog_12_method_16_code 256 = .ok (.iload 6, 2) := by decide +kernel
theorem d_RM_run_258 : decode prog_12_method_16_code 258 = .ok (.bipush 12, 2) := by decide +kernel
theorem d_RM_run_260 : decode prog_12_method_16_code 260 = .ok (.imul, 1) := by decide +kernel
theorem d_RM_run_261 : decode prog_12_method_16_code 261 = .ok (.iload 7, 2) := by decide +kernel
theorem d_RM_run_263 : decode prog_12_method_16_code 263 = .ok (.iadd, 1) := by decide +kernel
theorem d_RM_run_264 : decode prog_12_method_16_code 264 = .ok (.baload, 1) := by decide +kernel
theorem d_RM_run_265 : decode prog_12_method_16_code 265 = .ok (.ifCond .ne 13, 3) := by decide +kernel
theorem d_RM_run_158 : decode prog_12_method_16_code 158 = .ok (.goto 126, 3) := by decide +kernel
