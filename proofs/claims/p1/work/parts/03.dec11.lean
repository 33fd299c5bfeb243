theorem d_RM_lattice_30 : decode prog_12_method_3_code 30 = .ok (.dup, 1) := by decide +kernel
theorem d_RM_lattice_31 : decode prog_12_method_3_code 31 = .ok (.bipush 6, 2) := by decide +kernel
theorem d_RM_lattice_33 : decode prog_12_method_3_code 33 = .ok (.iconst 3, 1) := by decide +kernel
theorem d_RM_lattice_34 : decode prog_12_method_3_code 34 = .ok (.iastore, 1) := by decide +kernel
theorem d_RM_lattice_35 : decode prog_12_method_3_code 35 = .ok (.dup, 1) := by decide +kernel
theorem d_RM_lattice_36 : decode prog_12_method_3_code 36 = .ok (.bipush 7, 2) := by decide +kernel
theorem d_RM_lattice_38 : decode prog_12_method_3_code 38 = .ok (.bipush 31, 2) := by decide +kernel
theorem d_RM_lattice_40 : decode prog_12_method_3_code 40 = .ok (.iastore, 1) := by decide +kernel
theorem d_RM_lattice_41 : decode prog_12_method_3_code 41 = .ok (.dup, 1) := by decide +kernel
theorem d_RM_lattice_42 : decode prog_12_method_3_code 42 = .ok (.bipush 8, 2) := by decide +kernel
theorem d_RM_lattice_44 : decode prog_12_method_3_code 44 = .ok (.bipush 32, 2) := by decide +kernel
theorem d_RM_lattice_46 : decode prog_12_method_3_code 46 = .ok (.iastore, 1) := by decide +kernel
theorem d_RM_lattice_47 : decode prog_12_method_3_code 47 = .ok (.dup, 1) := by decide +kernel
theorem d_RM_lattice_48 : decode prog_12_method_3_code 48 = .ok (.bipush 9, 2) := by decide +kernel
theorem d_RM_lattice_50 : decode prog_12_method_3_code 50 = .ok (.bipush (-2), 2) := by decide +kernel
theorem d_RM_lattice_52 : decode prog_12_method_3_code 52 = .ok (.iastore, 1) := by decide +kernel
theorem d_RM_lattice_53 : decode prog_12_method_3_code 53 = .ok (.dup, 1) := by decide +kernel
theorem d_RM_lattice_54 : decode prog_12_method_3_code 54 = .ok (.bipush 10, 2) := by decide +kernel
theorem d_RM_lattice_56 : decode prog_12_method_3_code 56 = .ok (.sipush 128, 3) := by decide +kernel
theorem d_RM_lattice_59 : decode prog_12_method_3_code 59 = .ok (.iastore, 1) := by decide +kernel
theorem d_RM_lattice_60 : decode prog_12_method_3_code 60 = .ok (.dup, 1) := by decide +kernel
theorem d_RM_lattice_61 : decode prog_12_method_3_code 61 = .ok (.bipush 11, 2) := by decide +kernel
theorem d_RM_lattice_63 : decode prog_12_method_3_code 63 = .ok (.ldc 61, 2) := by decide +kernel
theorem d_RM_lattice_65 : decode prog_12_method_3_code 65 = .ok (.iastore, 1) := by decide +kernel
theorem d_RM_lattice_66 : decode prog_12_method_3_code 66 = .ok (.astore_n 1, 1) := by decide +kernel
theorem d_RM_lattice_67 : decode prog_12_method_3_code 67 = .ok (.aload_n 1, 1) := by decide +kernel
theorem d_RM_lattice_68 : decode prog_12_method_3_code 68 = .ok (.iload_n 0, 1) := by decide +kernel
theorem d_RM_lattice_69 : decode prog_12_method_3_code 69 = .ok (.iaload, 1) := by decide +kernel
theorem d_RM_lattice_70 : decode prog_12_method_3_code 70 = .ok (.ireturn, 1) := by decide +kernel
theorem d_RM_name_0 : decode prog_12_method_4_code 0 = .ok (.iload_n 0, 1) := by decide +kernel
theorem d_RM_name_1 : decode prog_12_method_4_code 1 = .ok (.tableswitch 135 0 14 #[75, 79, 83, 87, 91, 95, 99, 103, 107, 111, 115, 119, 123, 127, 131], 75) := by decide +kernel
theorem d_RM_name_76 : decode prog_12_method_4_code 76 = .ok (.ldc2_w 62, 3) := by decide +kernel
theorem d_RM_name_79 : decode prog_12_method_4_code 79 = .ok (.lreturn, 1) := by decide +kernel
theorem d_RM_name_80 : decode prog_12_method_4_code 80 = .ok (.ldc2_w 64, 3) := by decide +kernel
theorem d_RM_name_83 : decode prog_12_method_4_code 83 = .ok (.lreturn, 1) := by decide +kernel
theorem d_RM_name_84 : decode prog_12_method_4_code 84 = .ok (.ldc2_w 66, 3) := by decide +kernel
theorem d_RM_name_87 : decode prog_12_method_4_code 87 = .ok (.lreturn, 1) := by decide +kernel
theorem d_RM_name_88 : decode prog_12_method_4_code 88 = .ok (.ldc2_w 68, 3) := by decide +kernel
theorem d_RM_name_91 : decode prog_12_method_4_code 91 = .ok (.lreturn, 1) := by decide +kernel
theorem d_RM_name_92 : decode prog_12_method_4_code 92 = .ok (.ldc2_w 70, 3) := by decide +kernel
theorem d_RM_name_95 : decode prog_12_method_4_code 95 = .ok (.lreturn, 1) := by decide +kernel
theorem d_RM_name_96 : decode prog_12_method_4_code 96 = .ok (.ldc2_w 72, 3) := by decide +kernel
theorem d_RM_name_99 : decode prog_12_method_4_code 99 = .ok (.lreturn, 1) := by decide +kernel
theorem d_RM_name_100 : decode prog_12_method_4_code 100 = .ok (.ldc2_w 74, 3) := by decide +kernel
theorem d_RM_name_103 : decode prog_12_method_4_code 103 = .ok (.lreturn, 1) := by decide +kernel
theorem d_RM_name_104 : decode prog_12_method_4_code 104 = .ok (.ldc2_w 76, 3) := by decide +kernel
theorem d_RM_name_107 : decode prog_12_method_4_code 107 = .ok (.lreturn, 1) := by decide +kernel
theorem d_RM_name_108 : decode prog_12_method_4_code 108 = .ok (.ldc2_w 78, 3) := by decide +kernel
theorem d_RM_name_111 : decode prog_12_method_4_code 111 = .ok (.lreturn, 1) := by decide +kernel
theorem d_RM_name_112 : decode prog_12_method_4_code 112 = .ok (.ldc2_w 80, 3) := by decide +kernel
theorem d_RM_name_115 : decode prog_12_method_4_code 115 = .ok (.lreturn, 1) := by decide +kernel
theorem d_RM_name_116 : decode prog_12_method_4_code 116 = .ok (.ldc2_w 82, 3) := by decide +kernel
theorem d_RM_name_119 : decode prog_12_method_4_code 119 = .ok (.lreturn, 1) := by decide +kernel
theorem d_RM_name_120 : decode prog_12_method_4_code 120 = .ok (.ldc2_w 84, 3) := by decide +kernel
theorem d_RM_name_123 : decode prog_12_method_4_code 123 = .ok (.lreturn, 1) := by decide +kernel
theorem d_RM_name_124 : decode prog_12_method_4_code 124 = .ok (.ldc2_w 86, 3) := by decide +kernel
theorem d_RM_name_127 : decode prog_12_method_4_code 127 = .ok (.lreturn, 1) := by decide +kernel
theorem d_RM_name_128 : decode prog_12_method_4_code 128 = .ok (.ldc2_w 88, 3) := by decide +kernel
theorem d_RM_name_131 : decode prog_12_method_4_code 131 = .ok (.lreturn, 1) := by decide +kernel
theorem d_RM_name_132 : decode prog_12_method_4_code 132 = .ok (.ldc2_w 90, 3) := by decide +kernel
theorem d_RM_name_135 : decode prog_12_method_4_code 135 = .ok (.lreturn, 1) := by decide +kernel
theorem d_RM_name_136 : decode prog_12_method_4_code 136 = .ok (.ldc2_w 92, 3) := by decide +kernel
theorem d_RM_name_139 : decode prog_12_method_4_code 139 = .ok (.lreturn, 1) := by decide +kernel
theorem d_RM_foretold_0 : decode prog_12_method_10_code 0 = .ok (.iload_n 0, 1) := by decide +kernel
theorem d_RM_foretold_1 : decode prog_12_method_10_code 1 = .ok (.tableswitch 256 0 14 #[75, 80, 85, 90, 105, 120, 125, 130, 135, 139, 143, 179, 202, 227, 241], 75) := by decide +kernel
theorem d_RM_foretold_76 : decode prog_12_method_10_code 76 = .ok (.iload_n 1, 1) := by decide +kernel
theorem d_RM_foretold_77 : decode prog_12_method_10_code 77 = .ok (.iload_n 2, 1) := by decide +kernel
theorem d_RM_foretold_78 : decode prog_12_method_10_code 78 = .ok (.iadd, 1) := by decide +kernel
theorem d_RM_foretold_79 : decode prog_12_method_10_code 79 = .ok (.i2l, 1) := by decide +kernel
theorem d_RM_foretold_80 : decode prog_12_method_10_code 80 = .ok (.lreturn, 1) := by decide +kernel
theorem d_RM_foretold_81 : decode prog_12_method_10_code 81 = .ok (.iload_n 1, 1) := by decide +kernel
theorem d_RM_foretold_82 : decode prog_12_method_10_code 82 = .ok (.iload_n 2, 1) := by decide +kernel
theorem d_RM_foretold_83 : decode prog_12_method_10_code 83 = .ok (.isub, 1) := by decide +kernel
theorem d_RM_foretold_84 : decode prog_12_method_10_code 84 = .ok (.i2l, 1) := by decide +kernel
theorem d_RM_foretold_85 : decode prog_12_method_10_code 85 = .ok (.lreturn, 1) := by decide +kernel
theorem d_RM_foretold_86 : decode prog_12_method_10_code 86 = .ok (.iload_n 1, 1) := by decide +kernel
theorem d_RM_foretold_87 : decode prog_12_method_10_code 87 = .ok (.iload_n 2, 1) := by decide +kernel
theorem d_RM_foretold_88 : decode prog_12_method_10_code 88 = .ok (.imul, 1) := by decide +kernel
theorem d_RM_foretold_89 : decode prog_12_method_10_code 89 = .ok (.i2l, 1) := by decide +kernel
theorem d_RM_foretold_90 : decode prog_12_method_10_code 90 = .ok (.lreturn, 1) := by decide +kernel
theorem d_RM_foretold_91 : decode prog_12_method_10_code 91 = .ok (.iload_n 2, 1) := by decide +kernel
theorem d_RM_foretold_92 : decode prog_12_method_10_code 92 = .ok (.ifCond .ne 9, 3) := by decide +kernel
theorem d_RM_foretold_101 : decode prog_12_method_10_code 101 = .ok (.iload_n 1, 1) := by decide +kernel
theorem d_RM_foretold_102 : decode prog_12_method_10_code 102 = .ok (.iload_n 2, 1) := by decide +kernel
theorem d_RM_foretold_103 : decode prog_12_method_10_code 103 = .ok (.idiv, 1) := by decide +kernel
theorem d_RM_foretold_104 : decode prog_12_method_10_code 104 = .ok (.i2l, 1) := by decide +kernel
theorem d_RM_foretold_105 : decode prog_12_method_10_code 105 = .ok (.lreturn, 1) := by decide +kernel
theorem d_RM_foretold_95 : decode prog_12_method_10_code 95 = .ok (.ldc2_w 110, 3) := by decide +kernel
theorem d_RM_foretold_98 : decode prog_12_method_10_code 98 = .ok (.goto 7, 3) := by decide +kernel
theorem d_RM_foretold_106 : decode prog_12_method_10_code 106 = .ok (.iload_n 2, 1) := by decide +kernel
theorem d_RM_foretold_107 : decode prog_12_method_10_code 107 = .ok (.ifCond .ne 9, 3) := by decide +kernel
theorem d_RM_foretold_116 : decode prog_12_method_10_code 116 = .ok (.iload_n 1, 1) := by decide +kernel
theorem d_RM_foretold_117 : decode prog_12_method_10_code 117 = .ok (.iload_n 2, 1) := by decide +kernel
theorem d_RM_foretold_118 : decode prog_12_method_10_code 118 = .ok (.irem, 1) := by decide +kernel
theorem d_RM_foretold_119 : decode prog_12_method_10_code 119 = .ok (.i2l, 1) := by decide +kernel
theorem d_RM_foretold_120 : decode prog_12_method_10_code 120 = .ok (.lreturn, 1) := by decide +kernel
theorem d_RM_foretold_110 : decode prog_12_method_10_code 110 = .ok (.ldc2_w 110, 3) := by decide +kernel
theorem d_RM_foretold_113 : decode prog_12_method_10_code 113 = .ok (.goto 7, 3) := by decide +kernel
theorem d_RM_foretold_121 : decode prog_12_method_10_code 121 = .ok (.iload_n 1, 1) := by decide +kernel
theorem d_RM_foretold_122 : decode prog_12_method_10_code 122 = .ok (.iload_n 2, 1) := by decide +kernel
theorem d_RM_foretold_123 : decode prog_12_method_10_code 123 = .ok (.ishl, 1) := by decide +kernel
theorem d_RM_foretold_124 : decode prog_12_method_10_code 124 = .ok (.i2l, 1) := by decide +kernel
theorem d_RM_foretold_125 : decode prog_12_method_10_code 125 = .ok (.lreturn, 1) := by decide +kernel
theorem d_RM_foretold_126 : decode prog_12_method_10_code 126 = .ok (.iload_n 1, 1) := by decide +kernel
theorem d_RM_foretold_127 : decode prog_12_method_10_code 127 = .ok (.iload_n 2, 1) := by decide +kernel
theorem d_RM_foretold_128 : decode prog_12_method_10_code 128 = .ok (.ishr, 1) := by decide +kernel
theorem d_RM_foretold_129 : decode prog_12_method_10_code 129 = .ok (.i2l, 1) := by decide +kernel
theorem d_RM_foretold_130 : decode prog_12_method_10_code 130 = .ok (.lreturn, 1) := by decide +kernel
theorem d_RM_foretold_131 : decode prog_12_method_10_code 131 = .ok (.iload_n 1, 1) := by decide +kernel
theorem d_RM_foretold_132 : decode prog_12_method_10_code 132 = .ok (.iload_n 2, 1) := by decide +kernel
theorem d_RM_foretold_133 : decode prog_12_method_10_code 133 = .ok (.iushr, 1) := by decide +kernel
theorem d_RM_foretold_134 : decode prog_12_method_10_code 134 = .ok (.i2l, 1) := by decide +kernel
theorem d_RM_foretold_135 : decode prog_12_method_10_code 135 = .ok (.lreturn, 1) := by decide +kernel
theorem d_RM_foretold_136 : decode prog_12_method_10_code 136 = .ok (.iload_n 1, 1) := by decide +kernel
theorem d_RM_foretold_137 : decode prog_12_method_10_code 137 = .ok (.i2b, 1) := by decide +kernel
theorem d_RM_foretold_138 : decode prog_12_method_10_code 138 = .ok (.i2l, 1) := by decide +kernel
theorem d_RM_foretold_139 : decode prog_12_method_10_code 139 = .ok (.lreturn, 1) := by decide +kernel
theorem d_RM_foretold_140 : decode prog_12_method_10_code 140 = .ok (.iload_n 1, 1) := by decide +kernel
theorem d_RM_foretold_141 : decode prog_12_method_10_code 141 = .ok (.i2c, 1) := by decide +kernel
theorem d_RM_foretold_142 : decode prog_12_method_10_code 142 = .ok (.i2l, 1) := by decide +kernel
theorem d_RM_foretold_143 : decode prog_12_method_10_code 143 = .ok (.lreturn, 1) := by decide +kernel
theorem d_RM_foretold_144 : decode prog_12_method_10_code 144 = .ok (.iload_n 1, 1) := by decide +kernel
theorem d_RM_foretold_145 : decode prog_12_method_10_code 145 = .ok (.ifCond .ne 9, 3) := by decide +kernel
theorem d_RM_foretold_154 : decode prog_12_method_10_code 154 = .ok (.iload_n 1, 1) := by decide +kernel
theorem d_RM_foretold_155 : decode prog_12_method_10_code 155 = .ok (.iconst 1, 1) := by decide +kernel
theorem d_RM_foretold_156 : decode prog_12_method_10_code 156 = .ok (.if_icmp .ne 9, 3) := by decide +kernel
theorem d_RM_foretold_165 : decode prog_12_method_10_code 165 = .ok (.iload_n 1, 1) := by decide +kernel
theorem d_RM_foretold_166 : decode prog_12_method_10_code 166 = .ok (.iconst 2, 1) := by decide +kernel
theorem d_RM_foretold_167 : decode prog_12_method_10_code 167 = .ok (.if_icmp .ne 9, 3) := by decide +kernel
theorem d_RM_foretold_176 : decode prog_12_method_10_code 176 = .ok (.ldc2_w 118, 3) := by decide +kernel
theorem d_RM_foretold_179 : decode prog_12_method_10_code 179 = .ok (.lreturn, 1) := by decide +kernel
theorem d_RM_foretold_170 : decode prog_12_method_10_code 170 = .ok (.ldc2_w 116, 3) := by decide +kernel
theorem d_RM_foretold_173 : decode prog_12_method_10_code 173 = .ok (.goto 6, 3) := by decide +kernel
theorem d_RM_foretold_159 : decode prog_12_method_10_code 159 = .ok (.ldc2_w 114, 3) := by decide +kernel
theorem d_RM_foretold_162 : decode prog_12_method_10_code 162 = .ok (.goto 17, 3) := by decide +kernel
theorem d_RM_foretold_148 : decode prog_12_method_10_code 148 = .ok (.ldc2_w 112, 3) := by decide +kernel
theorem d_RM_foretold_151 : decode prog_12_method_10_code 151 = .ok (.goto 28, 3) := by decide +kernel
theorem d_RM_foretold_180 : decode prog_12_method_10_code 180 = .ok (.iload_n 2, 1) := by decide +kernel
theorem d_RM_foretold_181 : decode prog_12_method_10_code 181 = .ok (.iconst 3, 1) := by decide +kernel
theorem d_RM_foretold_182 : decode prog_12_method_10_code 182 = .ok (.invokestatic 94, 3) := by decide +kernel
theorem d_RM_foretold_185 : decode prog_12_method_10_code 185 = .ok (.ifCond .eq 14, 3) := by decide +kernel
theorem d_RM_foretold_199 : decode prog_12_method_10_code 199 = .ok (.ldc2_w 118, 3) := by decide +kernel
theorem d_RM_foretold_202 : decode prog_12_method_10_code 202 = .ok (.lreturn, 1) := by decide +kernel
theorem d_RM_foretold_188 : decode prog_12_method_10_code 188 = .ok (.bipush 70, 2) := by decide +kernel
theorem d_RM_foretold_190 : decode prog_12_method_10_code 190 = .ok (.bipush 10, 2) := by decide +kernel
theorem d_RM_foretold_192 : decode prog_12_method_10_code 192 = .ok (.iload_n 2, 1) := by decide +kernel
theorem d_RM_foretold_193 : decode prog_12_method_10_code 193 = .ok (.imul, 1) := by decide +kernel
theorem d_RM_foretold_194 : decode prog_12_method_10_code 194 = .ok (.iadd, 1) := by decide +kernel
theorem d_RM_foretold_195 : decode prog_12_method_10_code 195 = .ok (.i2l, 1) := by decide +kernel
theorem d_RM_foretold_196 : decode prog_12_method_10_code 196 = .ok (.goto 6, 3) := by decide +kernel
theorem d_RM_foretold_203 : decode prog_12_method_10_code 203 = .ok (.iload_n 1, 1) := by decide +kernel
theorem d_RM_foretold_204 : decode prog_12_method_10_code 204 = .ok (.ifCond .ge 9, 3) := by decide +kernel
theorem d_RM_foretold_213 : decode prog_12_method_10_code 213 = .ok (.iload_n 1, 1) := by decide +kernel
theorem d_RM_foretold_214 : decode prog_12_method_10_code 214 = .ok (.bipush 64, 2) := by decide +kernel
theorem d_RM_foretold_216 : decode prog_12_method_10_code 216 = .ok (.if_icmp .le 9, 3) := by decide +kernel
theorem d_RM_foretold_225 : decode prog_12_method_10_code 225 = .ok (.iload_n 1, 1) := by decide +kernel
theorem d_RM_foretold_226 : decode prog_12_method_10_code 226 = .ok (.i2l, 1) := by decide +kernel
theorem d_RM_foretold_227 : decode prog_12_method_10_code 227 = .ok (.lreturn, 1) := by decide +kernel
theorem d_RM_foretold_219 : decode prog_12_method_10_code 219 = .ok (.ldc2_w 122, 3) := by decide +kernel
theorem d_RM_foretold_222 : decode prog_12_method_10_code 222 = .ok (.goto 5, 3) := by decide +kernel
