theorem dL_margin_0 : decode cL_margin 0 = .ok (.iconst 0, 1) := by decide +kernel
theorem dL_margin_1 : decode cL_margin 1 = .ok (.istore_n 1, 1) := by decide +kernel
theorem dL_margin_2 : decode cL_margin 2 = .ok (.iconst 0, 1) := by decide +kernel
theorem dL_margin_3 : decode cL_margin 3 = .ok (.istore_n 2, 1) := by decide +kernel
theorem dL_margin_4 : decode cL_margin 4 = .ok (.iconst 0, 1) := by decide +kernel
theorem dL_margin_5 : decode cL_margin 5 = .ok (.istore_n 3, 1) := by decide +kernel
theorem dL_margin_6 : decode cL_margin 6 = .ok (.aload_n 0, 1) := by decide +kernel
theorem dL_margin_7 : decode cL_margin 7 = .ok (.iconst 1, 1) := by decide +kernel
theorem dL_margin_8 : decode cL_margin 8 = .ok (.invokevirtual 9, 3) := by decide +kernel
theorem dL_margin_11 : decode cL_margin 11 = .ok (.istore 4, 2) := by decide +kernel
theorem dL_margin_13 : decode cL_margin 13 = .ok (.bipush 16, 2) := by decide +kernel
theorem dL_margin_15 : decode cL_margin 15 = .ok (.newarray .int, 2) := by decide +kernel
theorem dL_margin_17 : decode cL_margin 17 = .ok (.astore 5, 2) := by decide +kernel
theorem dL_margin_19 : decode cL_margin 19 = .ok (.iconst 0, 1) := by decide +kernel
theorem dL_margin_20 : decode cL_margin 20 = .ok (.istore 6, 2) := by decide +kernel
theorem dL_margin_22 : decode cL_margin 22 = .ok (.iload 6, 2) := by decide +kernel
theorem dL_margin_24 : decode cL_margin 24 = .ok (.iload 4, 2) := by decide +kernel
theorem dL_margin_26 : decode cL_margin 26 = .ok (.if_icmp .ge 60, 3) := by decide +kernel
theorem dL_margin_29 : decode cL_margin 29 = .ok (.aload 5, 2) := by decide +kernel
theorem dL_margin_31 : decode cL_margin 31 = .ok (.iload 6, 2) := by decide +kernel
theorem dL_margin_33 : decode cL_margin 33 = .ok (.aload_n 0, 1) := by decide +kernel
theorem dL_margin_34 : decode cL_margin 34 = .ok (.iload 6, 2) := by decide +kernel
theorem dL_margin_36 : decode cL_margin 36 = .ok (.iconst 0, 1) := by decide +kernel
theorem dL_margin_37 : decode cL_margin 37 = .ok (.invokevirtual 25, 3) := by decide +kernel
theorem dL_margin_40 : decode cL_margin 40 = .ok (.iastore, 1) := by decide +kernel
theorem dL_margin_41 : decode cL_margin 41 = .ok (.aload_n 0, 1) := by decide +kernel
theorem dL_margin_42 : decode cL_margin 42 = .ok (.iload 6, 2) := by decide +kernel
theorem dL_margin_44 : decode cL_margin 44 = .ok (.iconst 1, 1) := by decide +kernel
theorem dL_margin_45 : decode cL_margin 45 = .ok (.invokevirtual 25, 3) := by decide +kernel
theorem dL_margin_48 : decode cL_margin 48 = .ok (.istore 7, 2) := by decide +kernel
theorem dL_margin_50 : decode cL_margin 50 = .ok (.iload_n 1, 1) := by decide +kernel
theorem dL_margin_51 : decode cL_margin 51 = .ok (.aload 5, 2) := by decide +kernel
theorem dL_margin_53 : decode cL_margin 53 = .ok (.iload 6, 2) := by decide +kernel
theorem dL_margin_55 : decode cL_margin 55 = .ok (.iaload, 1) := by decide +kernel
theorem dL_margin_56 : decode cL_margin 56 = .ok (.ifCond .lt 7, 3) := by decide +kernel
theorem dL_margin_59 : decode cL_margin 59 = .ok (.iconst 1, 1) := by decide +kernel
theorem dL_margin_60 : decode cL_margin 60 = .ok (.goto 4, 3) := by decide +kernel
theorem dL_margin_63 : decode cL_margin 63 = .ok (.iconst 0, 1) := by decide +kernel
theorem dL_margin_64 : decode cL_margin 64 = .ok (.iadd, 1) := by decide +kernel
theorem dL_margin_65 : decode cL_margin 65 = .ok (.istore_n 1, 1) := by decide +kernel
theorem dL_margin_66 : decode cL_margin 66 = .ok (.iload_n 2, 1) := by decide +kernel
theorem dL_margin_67 : decode cL_margin 67 = .ok (.iload 7, 2) := by decide +kernel
theorem dL_margin_69 : decode cL_margin 69 = .ok (.ifCond .le 8, 3) := by decide +kernel
theorem dL_margin_72 : decode cL_margin 72 = .ok (.iload 7, 2) := by decide +kernel
theorem dL_margin_74 : decode cL_margin 74 = .ok (.goto 4, 3) := by decide +kernel
theorem dL_margin_77 : decode cL_margin 77 = .ok (.iconst 0, 1) := by decide +kernel
theorem dL_margin_78 : decode cL_margin 78 = .ok (.iadd, 1) := by decide +kernel
theorem dL_margin_79 : decode cL_margin 79 = .ok (.istore_n 2, 1) := by decide +kernel
theorem dL_margin_80 : decode cL_margin 80 = .ok (.iinc 6 1, 3) := by decide +kernel
theorem dL_margin_83 : decode cL_margin 83 = .ok (.goto (-61), 3) := by decide +kernel
theorem dL_margin_86 : decode cL_margin 86 = .ok (.iload_n 2, 1) := by decide +kernel
theorem dL_margin_87 : decode cL_margin 87 = .ok (.aload_n 0, 1) := by decide +kernel
theorem dL_margin_88 : decode cL_margin 88 = .ok (.bipush 7, 2) := by decide +kernel
theorem dL_margin_90 : decode cL_margin 90 = .ok (.invokevirtual 9, 3) := by decide +kernel
theorem dL_margin_93 : decode cL_margin 93 = .ok (.if_icmp .ne 7, 3) := by decide +kernel
theorem dL_margin_96 : decode cL_margin 96 = .ok (.iconst 1, 1) := by decide +kernel
theorem dL_margin_97 : decode cL_margin 97 = .ok (.goto 4, 3) := by decide +kernel
theorem dL_margin_100 : decode cL_margin 100 = .ok (.iconst 0, 1) := by decide +kernel
theorem dL_margin_101 : decode cL_margin 101 = .ok (.istore 6, 2) := by decide +kernel
theorem dL_margin_103 : decode cL_margin 103 = .ok (.aload_n 0, 1) := by decide +kernel
theorem dL_margin_104 : decode cL_margin 104 = .ok (.bipush 6, 2) := by decide +kernel
theorem dL_margin_106 : decode cL_margin 106 = .ok (.invokevirtual 9, 3) := by decide +kernel
theorem dL_margin_109 : decode cL_margin 109 = .ok (.istore 7, 2) := by decide +kernel
theorem dL_margin_111 : decode cL_margin 111 = .ok (.aload_n 0, 1) := by decide +kernel
theorem dL_margin_112 : decode cL_margin 112 = .ok (.bipush 10, 2) := by decide +kernel
theorem dL_margin_114 : decode cL_margin 114 = .ok (.invokevirtual 9, 3) := by decide +kernel
theorem dL_margin_117 : decode cL_margin 117 = .ok (.istore 8, 2) := by decide +kernel
theorem dL_margin_119 : decode cL_margin 119 = .ok (.iconst 0, 1) := by decide +kernel
theorem dL_margin_120 : decode cL_margin 120 = .ok (.istore 9, 2) := by decide +kernel
theorem dL_margin_122 : decode cL_margin 122 = .ok (.iload 9, 2) := by decide +kernel
theorem dL_margin_124 : decode cL_margin 124 = .ok (.iload 7, 2) := by decide +kernel
theorem dL_margin_126 : decode cL_margin 126 = .ok (.if_icmp .gt 72, 3) := by decide +kernel
theorem dL_margin_129 : decode cL_margin 129 = .ok (.iload 6, 2) := by decide +kernel
theorem dL_margin_131 : decode cL_margin 131 = .ok (.ifCond .eq 67, 3) := by decide +kernel
theorem dL_margin_134 : decode cL_margin 134 = .ok (.iconst 0, 1) := by decide +kernel
theorem dL_margin_135 : decode cL_margin 135 = .ok (.istore 10, 2) := by decide +kernel
theorem dL_margin_137 : decode cL_margin 137 = .ok (.iconst 0, 1) := by decide +kernel
theorem dL_margin_138 : decode cL_margin 138 = .ok (.istore 11, 2) := by decide +kernel
theorem dL_margin_140 : decode cL_margin 140 = .ok (.iload 11, 2) := by decide +kernel
theorem dL_margin_142 : decode cL_margin 142 = .ok (.iload 4, 2) := by decide +kernel
theorem dL_margin_144 : decode cL_margin 144 = .ok (.if_icmp .ge 29, 3) := by decide +kernel
theorem dL_margin_147 : decode cL_margin 147 = .ok (.iload 10, 2) := by decide +kernel
theorem dL_margin_149 : decode cL_margin 149 = .ok (.aload 5, 2) := by decide +kernel
theorem dL_margin_151 : decode cL_margin 151 = .ok (.iload 11, 2) := by decide +kernel
theorem dL_margin_153 : decode cL_margin 153 = .ok (.iaload, 1) := by decide +kernel
theorem dL_margin_154 : decode cL_margin 154 = .ok (.iload 9, 2) := by decide +kernel
theorem dL_margin_156 : decode cL_margin 156 = .ok (.if_icmp .ne 7, 3) := by decide +kernel
theorem dL_margin_159 : decode cL_margin 159 = .ok (.iconst 1, 1) := by decide +kernel
theorem dL_margin_160 : decode cL_margin 160 = .ok (.goto 4, 3) := by decide +kernel
theorem dL_margin_163 : decode cL_margin 163 = .ok (.iconst 0, 1) := by decide +kernel
theorem dL_margin_164 : decode cL_margin 164 = .ok (.iadd, 1) := by decide +kernel
theorem dL_margin_165 : decode cL_margin 165 = .ok (.istore 10, 2) := by decide +kernel
theorem dL_margin_167 : decode cL_margin 167 = .ok (.iinc 11 1, 3) := by decide +kernel
theorem dL_margin_170 : decode cL_margin 170 = .ok (.goto (-30), 3) := by decide +kernel
theorem dL_margin_173 : decode cL_margin 173 = .ok (.iload_n 3, 1) := by decide +kernel
theorem dL_margin_174 : decode cL_margin 174 = .ok (.iload 10, 2) := by decide +kernel
theorem dL_margin_176 : decode cL_margin 176 = .ok (.iadd, 1) := by decide +kernel
theorem dL_margin_177 : decode cL_margin 177 = .ok (.istore_n 3, 1) := by decide +kernel
theorem dL_margin_178 : decode cL_margin 178 = .ok (.iload 10, 2) := by decide +kernel
theorem dL_margin_180 : decode cL_margin 180 = .ok (.iload 8, 2) := by decide +kernel
theorem dL_margin_182 : decode cL_margin 182 = .ok (.if_icmp .gt 7, 3) := by decide +kernel
theorem dL_margin_185 : decode cL_margin 185 = .ok (.iconst 1, 1) := by decide +kernel
theorem dL_margin_186 : decode cL_margin 186 = .ok (.goto 4, 3) := by decide +kernel
theorem dL_margin_189 : decode cL_margin 189 = .ok (.iconst 0, 1) := by decide +kernel
theorem dL_margin_190 : decode cL_margin 190 = .ok (.istore 6, 2) := by decide +kernel
theorem dL_margin_192 : decode cL_margin 192 = .ok (.iinc 9 1, 3) := by decide +kernel
theorem dL_margin_195 : decode cL_margin 195 = .ok (.goto (-73), 3) := by decide +kernel
theorem dL_margin_198 : decode cL_margin 198 = .ok (.aload_n 0, 1) := by decide +kernel
theorem dL_margin_199 : decode cL_margin 199 = .ok (.iconst 0, 1) := by decide +kernel
theorem dL_margin_200 : decode cL_margin 200 = .ok (.invokevirtual 34, 3) := by decide +kernel
theorem dL_margin_203 : decode cL_margin 203 = .ok (.istore 9, 2) := by decide +kernel
theorem dL_margin_205 : decode cL_margin 205 = .ok (.iload 6, 2) := by decide +kernel
theorem dL_margin_207 : decode cL_margin 207 = .ok (.ifCond .eq 61, 3) := by decide +kernel
theorem dL_margin_210 : decode cL_margin 210 = .ok (.iload_n 3, 1) := by decide +kernel
theorem dL_margin_211 : decode cL_margin 211 = .ok (.iload_n 1, 1) := by decide +kernel
theorem dL_margin_212 : decode cL_margin 212 = .ok (.if_icmp .ne 56, 3) := by decide +kernel
theorem dL_margin_215 : decode cL_margin 215 = .ok (.iload_n 1, 1) := by decide +kernel
theorem dL_margin_216 : decode cL_margin 216 = .ok (.iload 4, 2) := by decide +kernel
theorem dL_margin_218 : decode cL_margin 218 = .ok (.aload_n 0, 1) := by decide +kernel
theorem dL_margin_219 : decode cL_margin 219 = .ok (.iconst 2, 1) := by decide +kernel
theorem dL_margin_220 : decode cL_margin 220 = .ok (.invokevirtual 9, 3) := by decide +kernel
theorem dL_margin_223 : decode cL_margin 223 = .ok (.isub, 1) := by decide +kernel
theorem dL_margin_224 : decode cL_margin 224 = .ok (.aload_n 0, 1) := by decide +kernel
theorem dL_margin_225 : decode cL_margin 225 = .ok (.iconst 3, 1) := by decide +kernel
theorem dL_margin_226 : decode cL_margin 226 = .ok (.invokevirtual 9, 3) := by decide +kernel
theorem dL_margin_229 : decode cL_margin 229 = .ok (.isub, 1) := by decide +kernel
theorem dL_margin_230 : decode cL_margin 230 = .ok (.if_icmp .ne 38, 3) := by decide +kernel
theorem dL_margin_233 : decode cL_margin 233 = .ok (.iload 9, 2) := by decide +kernel
theorem dL_margin_235 : decode cL_margin 235 = .ok (.bipush (-6), 2) := by decide +kernel
theorem dL_margin_237 : decode cL_margin 237 = .ok (.if_icmp .eq 27, 3) := by decide +kernel
theorem dL_margin_240 : decode cL_margin 240 = .ok (.iload 8, 2) := by decide +kernel
theorem dL_margin_242 : decode cL_margin 242 = .ok (.iload 9, 2) := by decide +kernel
theorem dL_margin_244 : decode cL_margin 244 = .ok (.if_icmp .ge 7, 3) := by decide +kernel
theorem dL_margin_247 : decode cL_margin 247 = .ok (.iconst 1, 1) := by decide +kernel
theorem dL_margin_248 : decode cL_margin 248 = .ok (.goto 4, 3) := by decide +kernel
theorem dL_margin_251 : decode cL_margin 251 = .ok (.iconst 0, 1) := by decide +kernel
theorem dL_margin_252 : decode cL_margin 252 = .ok (.iload_n 2, 1) := by decide +kernel
theorem dL_margin_253 : decode cL_margin 253 = .ok (.ifCond .le 7, 3) := by decide +kernel
theorem dL_margin_256 : decode cL_margin 256 = .ok (.iconst 1, 1) := by decide +kernel
theorem dL_margin_257 : decode cL_margin 257 = .ok (.goto 4, 3) := by decide +kernel
theorem dL_margin_260 : decode cL_margin 260 = .ok (.iconst 0, 1) := by decide +kernel
theorem dL_margin_261 : decode cL_margin 261 = .ok (.if_icmp .ne 7, 3) := by decide +kernel
theorem dL_margin_264 : decode cL_margin 264 = .ok (.iconst 1, 1) := by decide +kernel
theorem dL_margin_265 : decode cL_margin 265 = .ok (.goto 4, 3) := by decide +kernel
theorem dL_margin_268 : decode cL_margin 268 = .ok (.iconst 0, 1) := by decide +kernel
theorem dL_margin_269 : decode cL_margin 269 = .ok (.ireturn, 1) := by decide +kernel
theorem dL_low_0 : decode cL_low 0 = .ok (.iload_n 0, 1) := by decide +kernel
theorem dL_low_1 : decode cL_low 1 = .ok (.ldc 7, 2) := by decide +kernel
theorem dL_low_3 : decode cL_low 3 = .ok (.iand, 1) := by decide +kernel
theorem dL_low_4 : decode cL_low 4 = .ok (.iload_n 1, 1) := by decide +kernel
theorem dL_low_5 : decode cL_low 5 = .ok (.irem, 1) := by decide +kernel
theorem dL_low_6 : decode cL_low 6 = .ok (.ireturn, 1) := by decide +kernel
theorem dL_cell_0 : decode cL_cell 0 = .ok (.iload_n 1, 1) := by decide +kernel
theorem dL_cell_1 : decode cL_cell 1 = .ok (.aload_n 0, 1) := by decide +kernel
theorem dL_cell_2 : decode cL_cell 2 = .ok (.arraylength, 1) := by decide +kernel
theorem dL_cell_3 : decode cL_cell 3 = .ok (.if_icmp .ge 9, 3) := by decide +kernel
theorem dL_cell_6 : decode cL_cell 6 = .ok (.aload_n 0, 1) := by decide +kernel
theorem dL_cell_7 : decode cL_cell 7 = .ok (.iload_n 1, 1) := by decide +kernel
theorem dL_cell_8 : decode cL_cell 8 = .ok (.iaload, 1) := by decide +kernel
theorem dL_cell_9 : decode cL_cell 9 = .ok (.goto 11, 3) := by decide +kernel
theorem dL_cell_12 : decode cL_cell 12 = .ok (.ldc 8, 2) := by decide +kernel
theorem dL_cell_14 : decode cL_cell 14 = .ok (.iload_n 1, 1) := by decide +kernel
theorem dL_cell_15 : decode cL_cell 15 = .ok (.imul, 1) := by decide +kernel
theorem dL_cell_16 : decode cL_cell 16 = .ok (.sipush 977, 3) := by decide +kernel
theorem dL_cell_19 : decode cL_cell 19 = .ok (.iadd, 1) := by decide +kernel
theorem dL_cell_20 : decode cL_cell 20 = .ok (.ireturn, 1) := by decide +kernel
