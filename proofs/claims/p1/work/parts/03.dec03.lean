theorem d_K_Report_forget_2 : decode prog_7_method_2_code 2 = .ok (.putfield 15, 3) := by decide +kernel
theorem d_K_Report_forget_5 : decode prog_7_method_2_code 5 = .ok (.return_, 1) := by decide +kernel
theorem d_K_Report_length_0 : decode prog_7_method_3_code 0 = .ok (.aload_n 0, 1) := by decide +kernel
theorem d_K_Report_length_1 : decode prog_7_method_3_code 1 = .ok (.getfield 15, 3) := by decide +kernel
theorem d_K_Report_length_4 : decode prog_7_method_3_code 4 = .ok (.ireturn, 1) := by decide +kernel
theorem d_K_Report_put_0 : decode prog_7_method_5_code 0 = .ok (.aload_n 0, 1) := by decide +kernel
theorem d_K_Report_put_1 : decode prog_7_method_5_code 1 = .ok (.getfield 15, 3) := by decide +kernel
theorem d_K_Report_put_4 : decode prog_7_method_5_code 4 = .ok (.sipush 256, 3) := by decide +kernel
theorem d_K_Report_put_7 : decode prog_7_method_5_code 7 = .ok (.if_icmp .ge 23, 3) := by decide +kernel
theorem d_K_Report_put_30 : decode prog_7_method_5_code 30 = .ok (.return_, 1) := by decide +kernel
theorem d_K_Report_put_10 : decode prog_7_method_5_code 10 = .ok (.aload_n 0, 1) := by decide +kernel
theorem d_K_Report_put_11 : decode prog_7_method_5_code 11 = .ok (.getfield 9, 3) := by decide +kernel
theorem d_K_Report_put_14 : decode prog_7_method_5_code 14 = .ok (.aload_n 0, 1) := by decide +kernel
theorem d_K_Report_put_15 : decode prog_7_method_5_code 15 = .ok (.getfield 15, 3) := by decide +kernel
theorem d_K_Report_put_18 : decode prog_7_method_5_code 18 = .ok (.iload_n 1, 1) := by decide +kernel
theorem d_K_Report_put_19 : decode prog_7_method_5_code 19 = .ok (.castore, 1) := by decide +kernel
theorem d_K_Report_put_20 : decode prog_7_method_5_code 20 = .ok (.aload_n 0, 1) := by decide +kernel
theorem d_K_Report_put_21 : decode prog_7_method_5_code 21 = .ok (.dup, 1) := by decide +kernel
theorem d_K_Report_put_22 : decode prog_7_method_5_code 22 = .ok (.getfield 15, 3) := by decide +kernel
theorem d_K_Report_put_25 : decode prog_7_method_5_code 25 = .ok (.iconst 1, 1) := by decide +kernel
theorem d_K_Report_put_26 : decode prog_7_method_5_code 26 = .ok (.iadd, 1) := by decide +kernel
theorem d_K_Report_put_27 : decode prog_7_method_5_code 27 = .ok (.putfield 15, 3) := by decide +kernel
theorem d_K_Shrinker_steps_0 : decode prog_8_method_5_code 0 = .ok (.aload_n 0, 1) := by decide +kernel
theorem d_K_Shrinker_steps_1 : decode prog_8_method_5_code 1 = .ok (.getfield 18, 3) := by decide +kernel
theorem d_K_Shrinker_steps_4 : decode prog_8_method_5_code 4 = .ok (.ireturn, 1) := by decide +kernel
theorem d_K_Shrinker_a_0 : decode prog_8_method_3_code 0 = .ok (.getstatic 34, 3) := by decide +kernel
theorem d_K_Shrinker_a_3 : decode prog_8_method_3_code 3 = .ok (.aload_n 0, 1) := by decide +kernel
theorem d_K_Shrinker_a_4 : decode prog_8_method_3_code 4 = .ok (.getfield 9, 3) := by decide +kernel
theorem d_K_Shrinker_a_7 : decode prog_8_method_3_code 7 = .ok (.iaload, 1) := by decide +kernel
theorem d_K_Shrinker_a_8 : decode prog_8_method_3_code 8 = .ok (.ireturn, 1) := by decide +kernel
theorem d_K_Shrinker_b_0 : decode prog_8_method_4_code 0 = .ok (.getstatic 34, 3) := by decide +kernel
theorem d_K_Shrinker_b_3 : decode prog_8_method_4_code 3 = .ok (.aload_n 0, 1) := by decide +kernel
theorem d_K_Shrinker_b_4 : decode prog_8_method_4_code 4 = .ok (.getfield 15, 3) := by decide +kernel
theorem d_K_Shrinker_b_7 : decode prog_8_method_4_code 7 = .ok (.iaload, 1) := by decide +kernel
theorem d_K_Shrinker_b_8 : decode prog_8_method_4_code 8 = .ok (.ireturn, 1) := by decide +kernel
theorem d_K_PairBook_held_0 : decode prog_6_method_3_code 0 = .ok (.aload_n 0, 1) := by decide +kernel
theorem d_K_PairBook_held_1 : decode prog_6_method_3_code 1 = .ok (.getfield 21, 3) := by decide +kernel
theorem d_K_PairBook_held_4 : decode prog_6_method_3_code 4 = .ok (.ireturn, 1) := by decide +kernel
theorem d_K_EntryPoints_foretell_0 : decode prog_2_method_3_code 0 = .ok (.iload_n 0, 1) := by decide +kernel
theorem d_K_EntryPoints_foretell_1 : decode prog_2_method_3_code 1 = .ok (.tableswitch 226 0 14 #[75, 80, 85, 90, 105, 120, 125, 130, 135, 139, 143, 170, 192, 197, 211], 75) := by decide +kernel
theorem d_K_EntryPoints_foretell_76 : decode prog_2_method_3_code 76 = .ok (.iload_n 1, 1) := by decide +kernel
theorem d_K_EntryPoints_foretell_77 : decode prog_2_method_3_code 77 = .ok (.iload_n 2, 1) := by decide +kernel
theorem d_K_EntryPoints_foretell_78 : decode prog_2_method_3_code 78 = .ok (.iadd, 1) := by decide +kernel
theorem d_K_EntryPoints_foretell_79 : decode prog_2_method_3_code 79 = .ok (.i2l, 1) := by decide +kernel
theorem d_K_EntryPoints_foretell_80 : decode prog_2_method_3_code 80 = .ok (.lreturn, 1) := by decide +kernel
theorem d_K_EntryPoints_foretell_81 : decode prog_2_method_3_code 81 = .ok (.iload_n 1, 1) := by decide +kernel
theorem d_K_EntryPoints_foretell_82 : decode prog_2_method_3_code 82 = .ok (.iload_n 2, 1) := by decide +kernel
theorem d_K_EntryPoints_foretell_83 : decode prog_2_method_3_code 83 = .ok (.isub, 1) := by decide +kernel
theorem d_K_EntryPoints_foretell_84 : decode prog_2_method_3_code 84 = .ok (.i2l, 1) := by decide +kernel
theorem d_K_EntryPoints_foretell_85 : decode prog_2_method_3_code 85 = .ok (.lreturn, 1) := by decide +kernel
theorem d_K_EntryPoints_foretell_86 : decode prog_2_method_3_code 86 = .ok (.iload_n 1, 1) := by decide +kernel
theorem d_K_EntryPoints_foretell_87 : decode prog_2_method_3_code 87 = .ok (.iload_n 2, 1) := by decide +kernel
theorem d_K_EntryPoints_foretell_88 : decode prog_2_method_3_code 88 = .ok (.imul, 1) := by decide +kernel
theorem d_K_EntryPoints_foretell_89 : decode prog_2_method_3_code 89 = .ok (.i2l, 1) := by decide +kernel
theorem d_K_EntryPoints_foretell_90 : decode prog_2_method_3_code 90 = .ok (.lreturn, 1) := by decide +kernel
theorem d_K_EntryPoints_foretell_91 : decode prog_2_method_3_code 91 = .ok (.iload_n 2, 1) := by decide +kernel
theorem d_K_EntryPoints_foretell_92 : decode prog_2_method_3_code 92 = .ok (.ifCond .ne 9, 3) := by decide +kernel
theorem d_K_EntryPoints_foretell_101 : decode prog_2_method_3_code 101 = .ok (.iload_n 1, 1) := by decide +kernel
theorem d_K_EntryPoints_foretell_102 : decode prog_2_method_3_code 102 = .ok (.iload_n 2, 1) := by decide +kernel
theorem d_K_EntryPoints_foretell_103 : decode prog_2_method_3_code 103 = .ok (.idiv, 1) := by decide +kernel
theorem d_K_EntryPoints_foretell_104 : decode prog_2_method_3_code 104 = .ok (.i2l, 1) := by decide +kernel
theorem d_K_EntryPoints_foretell_105 : decode prog_2_method_3_code 105 = .ok (.lreturn, 1) := by decide +kernel
theorem d_K_EntryPoints_foretell_95 : decode prog_2_method_3_code 95 = .ok (.ldc2_w 41, 3) := by decide +kernel
theorem d_K_EntryPoints_foretell_98 : decode prog_2_method_3_code 98 = .ok (.goto 7, 3) := by decide +kernel
theorem d_K_EntryPoints_foretell_106 : decode prog_2_method_3_code 106 = .ok (.iload_n 2, 1) := by decide +kernel
theorem d_K_EntryPoints_foretell_107 : decode prog_2_method_3_code 107 = .ok (.ifCond .ne 9, 3) := by decide +kernel
theorem d_K_EntryPoints_foretell_116 : decode prog_2_method_3_code 116 = .ok (.iload_n 1, 1) := by decide +kernel
theorem d_K_EntryPoints_foretell_117 : decode prog_2_method_3_code 117 = .ok (.iload_n 2, 1) := by decide +kernel
theorem d_K_EntryPoints_foretell_118 : decode prog_2_method_3_code 118 = .ok (.irem, 1) := by decide +kernel
theorem d_K_EntryPoints_foretell_119 : decode prog_2_method_3_code 119 = .ok (.i2l, 1) := by decide +kernel
theorem d_K_EntryPoints_foretell_120 : decode prog_2_method_3_code 120 = .ok (.lreturn, 1) := by decide +kernel
theorem d_K_EntryPoints_foretell_110 : decode prog_2_method_3_code 110 = .ok (.ldc2_w 41, 3) := by decide +kernel
theorem d_K_EntryPoints_foretell_113 : decode prog_2_method_3_code 113 = .ok (.goto 7, 3) := by decide +kernel
theorem d_K_EntryPoints_foretell_121 : decode prog_2_method_3_code 121 = .ok (.iload_n 1, 1) := by decide +kernel
theorem d_K_EntryPoints_foretell_122 : decode prog_2_method_3_code 122 = .ok (.iload_n 2, 1) := by decide +kernel
theorem d_K_EntryPoints_foretell_123 : decode prog_2_method_3_code 123 = .ok (.ishl, 1) := by decide +kernel
theorem d_K_EntryPoints_foretell_124 : decode prog_2_method_3_code 124 = .ok (.i2l, 1) := by decide +kernel
theorem d_K_EntryPoints_foretell_125 : decode prog_2_method_3_code 125 = .ok (.lreturn, 1) := by decide +kernel
theorem d_K_EntryPoints_foretell_126 : decode prog_2_method_3_code 126 = .ok (.iload_n 1, 1) := by decide +kernel
theorem d_K_EntryPoints_foretell_127 : decode prog_2_method_3_code 127 = .ok (.iload_n 2, 1) := by decide +kernel
theorem d_K_EntryPoints_foretell_128 : decode prog_2_method_3_code 128 = .ok (.ishr, 1) := by decide +kernel
theorem d_K_EntryPoints_foretell_129 : decode prog_2_method_3_code 129 = .ok (.i2l, 1) := by decide +kernel
theorem d_K_EntryPoints_foretell_130 : decode prog_2_method_3_code 130 = .ok (.lreturn, 1) := by decide +kernel
theorem d_K_EntryPoints_foretell_131 : decode prog_2_method_3_code 131 = .ok (.iload_n 1, 1) := by decide +kernel
theorem d_K_EntryPoints_foretell_132 : decode prog_2_method_3_code 132 = .ok (.iload_n 2, 1) := by decide +kernel
theorem d_K_EntryPoints_foretell_133 : decode prog_2_method_3_code 133 = .ok (.iushr, 1) := by decide +kernel
theorem d_K_EntryPoints_foretell_134 : decode prog_2_method_3_code 134 = .ok (.i2l, 1) := by decide +kernel
theorem d_K_EntryPoints_foretell_135 : decode prog_2_method_3_code 135 = .ok (.lreturn, 1) := by decide +kernel
theorem d_K_EntryPoints_foretell_136 : decode prog_2_method_3_code 136 = .ok (.iload_n 1, 1) := by decide +kernel
theorem d_K_EntryPoints_foretell_137 : decode prog_2_method_3_code 137 = .ok (.i2b, 1) := by decide +kernel
theorem d_K_EntryPoints_foretell_138 : decode prog_2_method_3_code 138 = .ok (.i2l, 1) := by decide +kernel
theorem d_K_EntryPoints_foretell_139 : decode prog_2_method_3_code 139 = .ok (.lreturn, 1) := by decide +kernel
theorem d_K_EntryPoints_foretell_140 : decode prog_2_method_3_code 140 = .ok (.iload_n 1, 1) := by decide +kernel
theorem d_K_EntryPoints_foretell_141 : decode prog_2_method_3_code 141 = .ok (.i2c, 1) := by decide +kernel
theorem d_K_EntryPoints_foretell_142 : decode prog_2_method_3_code 142 = .ok (.i2l, 1) := by decide +kernel
theorem d_K_EntryPoints_foretell_143 : decode prog_2_method_3_code 143 = .ok (.lreturn, 1) := by decide +kernel
theorem d_K_EntryPoints_foretell_144 : decode prog_2_method_3_code 144 = .ok (.iload_n 1, 1) := by decide +kernel
theorem d_K_EntryPoints_foretell_145 : decode prog_2_method_3_code 145 = .ok (.ifCond .lt 12, 3) := by decide +kernel
theorem d_K_EntryPoints_foretell_157 : decode prog_2_method_3_code 157 = .ok (.ldc2_w 53, 3) := by decide +kernel
theorem d_K_EntryPoints_foretell_160 : decode prog_2_method_3_code 160 = .ok (.goto 10, 3) := by decide +kernel
theorem d_K_EntryPoints_foretell_170 : decode prog_2_method_3_code 170 = .ok (.lreturn, 1) := by decide +kernel
theorem d_K_EntryPoints_foretell_148 : decode prog_2_method_3_code 148 = .ok (.iload_n 1, 1) := by decide +kernel
theorem d_K_EntryPoints_foretell_149 : decode prog_2_method_3_code 149 = .ok (.ldc 45, 2) := by decide +kernel
theorem d_K_EntryPoints_foretell_151 : decode prog_2_method_3_code 151 = .ok (.invokevirtual 47, 3) := by decide +kernel
theorem d_K_EntryPoints_foretell_154 : decode prog_2_method_3_code 154 = .ok (.if_icmp .lt 9, 3) := by decide +kernel
theorem d_K_EntryPoints_foretell_163 : decode prog_2_method_3_code 163 = .ok (.ldc 45, 2) := by decide +kernel
theorem d_K_EntryPoints_foretell_165 : decode prog_2_method_3_code 165 = .ok (.iload_n 1, 1) := by decide +kernel
theorem d_K_EntryPoints_foretell_166 : decode prog_2_method_3_code 166 = .ok (.invokevirtual 55, 3) := by decide +kernel
theorem d_K_EntryPoints_foretell_169 : decode prog_2_method_3_code 169 = .ok (.i2l, 1) := by decide +kernel
theorem d_K_EntryPoints_foretell_171 : decode prog_2_method_3_code 171 = .ok (.iload_n 2, 1) := by decide +kernel
theorem d_K_EntryPoints_foretell_172 : decode prog_2_method_3_code 172 = .ok (.ifCond .lt 8, 3) := by decide +kernel
theorem d_K_EntryPoints_foretell_180 : decode prog_2_method_3_code 180 = .ok (.ldc2_w 53, 3) := by decide +kernel
theorem d_K_EntryPoints_foretell_183 : decode prog_2_method_3_code 183 = .ok (.goto 9, 3) := by decide +kernel
theorem d_K_EntryPoints_foretell_192 : decode prog_2_method_3_code 192 = .ok (.lreturn, 1) := by decide +kernel
theorem d_K_EntryPoints_foretell_175 : decode prog_2_method_3_code 175 = .ok (.iload_n 2, 1) := by decide +kernel
theorem d_K_EntryPoints_foretell_176 : decode prog_2_method_3_code 176 = .ok (.iconst 3, 1) := by decide +kernel
theorem d_K_EntryPoints_foretell_177 : decode prog_2_method_3_code 177 = .ok (.if_icmp .lt 9, 3) := by decide +kernel
theorem d_K_EntryPoints_foretell_186 : decode prog_2_method_3_code 186 = .ok (.getstatic 59, 3) := by decide +kernel
theorem d_K_EntryPoints_foretell_189 : decode prog_2_method_3_code 189 = .ok (.iload_n 2, 1) := by decide +kernel
theorem d_K_EntryPoints_foretell_190 : decode prog_2_method_3_code 190 = .ok (.iaload, 1) := by decide +kernel
theorem d_K_EntryPoints_foretell_191 : decode prog_2_method_3_code 191 = .ok (.i2l, 1) := by decide +kernel
theorem d_K_EntryPoints_foretell_193 : decode prog_2_method_3_code 193 = .ok (.iload_n 1, 1) := by decide +kernel
theorem d_K_EntryPoints_foretell_194 : decode prog_2_method_3_code 194 = .ok (.invokestatic 63, 3) := by decide +kernel
theorem d_K_EntryPoints_foretell_197 : decode prog_2_method_3_code 197 = .ok (.lreturn, 1) := by decide +kernel
theorem d_K_EntryPoints_foretell_198 : decode prog_2_method_3_code 198 = .ok (.iload_n 1, 1) := by decide +kernel
theorem d_K_EntryPoints_foretell_199 : decode prog_2_method_3_code 199 = .ok (.iload_n 2, 1) := by decide +kernel
theorem d_K_EntryPoints_foretell_200 : decode prog_2_method_3_code 200 = .ok (.if_icmp .ne 8, 3) := by decide +kernel
theorem d_K_EntryPoints_foretell_208 : decode prog_2_method_3_code 208 = .ok (.ldc2_w 67, 3) := by decide +kernel
theorem d_K_EntryPoints_foretell_211 : decode prog_2_method_3_code 211 = .ok (.lreturn, 1) := by decide +kernel
theorem d_K_EntryPoints_foretell_203 : decode prog_2_method_3_code 203 = .ok (.iload_n 1, 1) := by decide +kernel
theorem d_K_EntryPoints_foretell_204 : decode prog_2_method_3_code 204 = .ok (.i2l, 1) := by decide +kernel
theorem d_K_EntryPoints_foretell_205 : decode prog_2_method_3_code 205 = .ok (.goto 6, 3) := by decide +kernel
theorem d_K_EntryPoints_foretell_212 : decode prog_2_method_3_code 212 = .ok (.iload_n 1, 1) := by decide +kernel
theorem d_K_EntryPoints_foretell_213 : decode prog_2_method_3_code 213 = .ok (.iload_n 2, 1) := by decide +kernel
theorem d_K_EntryPoints_foretell_214 : decode prog_2_method_3_code 214 = .ok (.if_icmp .le 9, 3) := by decide +kernel
theorem d_K_EntryPoints_foretell_223 : decode prog_2_method_3_code 223 = .ok (.ldc2_w 71, 3) := by decide +kernel
theorem d_K_EntryPoints_foretell_226 : decode prog_2_method_3_code 226 = .ok (.lreturn, 1) := by decide +kernel
theorem d_K_EntryPoints_foretell_217 : decode prog_2_method_3_code 217 = .ok (.ldc2_w 69, 3) := by decide +kernel
theorem d_K_EntryPoints_foretell_220 : decode prog_2_method_3_code 220 = .ok (.goto 6, 3) := by decide +kernel
theorem d_K_EntryPoints_foretell_227 : decode prog_2_method_3_code 227 = .ok (.iload_n 1, 1) := by decide +kernel
theorem d_K_EntryPoints_foretell_228 : decode prog_2_method_3_code 228 = .ok (.iload_n 2, 1) := by decide +kernel
theorem d_K_EntryPoints_foretell_229 : decode prog_2_method_3_code 229 = .ok (.invokestatic 73, 3) := by decide +kernel
theorem d_K_EntryPoints_foretell_232 : decode prog_2_method_3_code 232 = .ok (.i2l, 1) := by decide +kernel
theorem d_K_EntryPoints_foretell_233 : decode prog_2_method_3_code 233 = .ok (.lreturn, 1) := by decide +kernel
theorem d_K_Machine_give_0 : decode prog_5_method_5_code 0 = .ok (.iload_n 1, 1) := by decide +kernel
theorem d_K_Machine_give_1 : decode prog_5_method_5_code 1 = .ok (.iload_n 2, 1) := by decide +kernel
theorem d_K_Machine_give_2 : decode prog_5_method_5_code 2 = .ok (.iload_n 3, 1) := by decide +kernel
theorem d_K_Machine_give_3 : decode prog_5_method_5_code 3 = .ok (.invokestatic 25, 3) := by decide +kernel
theorem d_K_Machine_give_6 : decode prog_5_method_5_code 6 = .ok (.lstore 4, 2) := by decide +kernel
theorem d_K_Machine_give_8 : decode prog_5_method_5_code 8 = .ok (.iconst 0, 1) := by decide +kernel
theorem d_K_Machine_give_9 : decode prog_5_method_5_code 9 = .ok (.istore 6, 2) := by decide +kernel
theorem d_K_Machine_give_11 : decode prog_5_method_5_code 11 = .ok (.iload 6, 2) := by decide +kernel
theorem d_K_Machine_give_13 : decode prog_5_method_5_code 13 = .ok (.aload_n 0, 1) := by decide +kernel
theorem d_K_Machine_give_14 : decode prog_5_method_5_code 14 = .ok (.getfield 21, 3) := by decide +kernel
theorem d_K_Machine_give_17 : decode prog_5_method_5_code 17 = .ok (.if_icmp .ge 64, 3) := by decide +kernel
theorem d_K_Machine_give_81 : decode prog_5_method_5_code 81 = .ok (.lload 4, 2) := by decide +kernel
theorem d_K_Machine_give_83 : decode prog_5_method_5_code 83 = .ok (.lreturn, 1) := by decide +kernel
theorem d_K_Machine_give_20 : decode prog_5_method_5_code 20 = .ok (.aload_n 0, 1) := by decide +kernel
theorem d_K_Machine_give_21 : decode prog_5_method_5_code 21 = .ok (.getfield 9, 3) := by decide +kernel
theorem d_K_Machine_give_24 : decode prog_5_method_5_code 24 = .ok (.iload 6, 2) := by decide +kernel
