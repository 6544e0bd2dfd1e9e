theorem dL_notes_0 : decode cL_notes 0 = .ok (.iconst 0, 1) := by decide +kernel
theorem dL_notes_1 : decode cL_notes 1 = .ok (.istore_n 1, 1) := by decide +kernel
theorem dL_notes_2 : decode cL_notes 2 = .ok (.iconst 0, 1) := by decide +kernel
theorem dL_notes_3 : decode cL_notes 3 = .ok (.istore_n 2, 1) := by decide +kernel
theorem dL_notes_4 : decode cL_notes 4 = .ok (.iconst 0, 1) := by decide +kernel
theorem dL_notes_5 : decode cL_notes 5 = .ok (.istore_n 3, 1) := by decide +kernel
theorem dL_notes_6 : decode cL_notes 6 = .ok (.iconst 0, 1) := by decide +kernel
theorem dL_notes_7 : decode cL_notes 7 = .ok (.istore 4, 2) := by decide +kernel
theorem dL_notes_9 : decode cL_notes 9 = .ok (.aload_n 0, 1) := by decide +kernel
theorem dL_notes_10 : decode cL_notes 10 = .ok (.iconst 0, 1) := by decide +kernel
theorem dL_notes_11 : decode cL_notes 11 = .ok (.invokevirtual 9, 3) := by decide +kernel
theorem dL_notes_14 : decode cL_notes 14 = .ok (.bipush 60, 2) := by decide +kernel
theorem dL_notes_16 : decode cL_notes 16 = .ok (.if_icmp .gt 17, 3) := by decide +kernel
theorem dL_notes_19 : decode cL_notes 19 = .ok (.aload_n 0, 1) := by decide +kernel
theorem dL_notes_20 : decode cL_notes 20 = .ok (.iconst 1, 1) := by decide +kernel
theorem dL_notes_21 : decode cL_notes 21 = .ok (.invokevirtual 9, 3) := by decide +kernel
theorem dL_notes_24 : decode cL_notes 24 = .ok (.bipush 16, 2) := by decide +kernel
theorem dL_notes_26 : decode cL_notes 26 = .ok (.if_icmp .gt 7, 3) := by decide +kernel
theorem dL_notes_29 : decode cL_notes 29 = .ok (.iconst 1, 1) := by decide +kernel
theorem dL_notes_30 : decode cL_notes 30 = .ok (.goto 4, 3) := by decide +kernel
theorem dL_notes_33 : decode cL_notes 33 = .ok (.iconst 0, 1) := by decide +kernel
theorem dL_notes_34 : decode cL_notes 34 = .ok (.istore 5, 2) := by decide +kernel
theorem dL_notes_36 : decode cL_notes 36 = .ok (.iconst 0, 1) := by decide +kernel
theorem dL_notes_37 : decode cL_notes 37 = .ok (.istore 6, 2) := by decide +kernel
theorem dL_notes_39 : decode cL_notes 39 = .ok (.iload 6, 2) := by decide +kernel
theorem dL_notes_41 : decode cL_notes 41 = .ok (.aload_n 0, 1) := by decide +kernel
theorem dL_notes_42 : decode cL_notes 42 = .ok (.iconst 1, 1) := by decide +kernel
theorem dL_notes_43 : decode cL_notes 43 = .ok (.invokevirtual 9, 3) := by decide +kernel
theorem dL_notes_46 : decode cL_notes 46 = .ok (.if_icmp .ge 584, 3) := by decide +kernel
theorem dL_notes_49 : decode cL_notes 49 = .ok (.iload 5, 2) := by decide +kernel
theorem dL_notes_51 : decode cL_notes 51 = .ok (.ifCond .eq 579, 3) := by decide +kernel
theorem dL_notes_54 : decode cL_notes 54 = .ok (.aload_n 0, 1) := by decide +kernel
theorem dL_notes_55 : decode cL_notes 55 = .ok (.iload 6, 2) := by decide +kernel
theorem dL_notes_57 : decode cL_notes 57 = .ok (.iconst 0, 1) := by decide +kernel
theorem dL_notes_58 : decode cL_notes 58 = .ok (.invokevirtual 15, 3) := by decide +kernel
theorem dL_notes_61 : decode cL_notes 61 = .ok (.istore 7, 2) := by decide +kernel
theorem dL_notes_63 : decode cL_notes 63 = .ok (.aload_n 0, 1) := by decide +kernel
theorem dL_notes_64 : decode cL_notes 64 = .ok (.iload 6, 2) := by decide +kernel
theorem dL_notes_66 : decode cL_notes 66 = .ok (.iconst 1, 1) := by decide +kernel
theorem dL_notes_67 : decode cL_notes 67 = .ok (.invokevirtual 15, 3) := by decide +kernel
theorem dL_notes_70 : decode cL_notes 70 = .ok (.istore 8, 2) := by decide +kernel
theorem dL_notes_72 : decode cL_notes 72 = .ok (.aload_n 0, 1) := by decide +kernel
theorem dL_notes_73 : decode cL_notes 73 = .ok (.iload 6, 2) := by decide +kernel
theorem dL_notes_75 : decode cL_notes 75 = .ok (.iconst 2, 1) := by decide +kernel
theorem dL_notes_76 : decode cL_notes 76 = .ok (.invokevirtual 15, 3) := by decide +kernel
theorem dL_notes_79 : decode cL_notes 79 = .ok (.istore 9, 2) := by decide +kernel
theorem dL_notes_81 : decode cL_notes 81 = .ok (.iload_n 1, 1) := by decide +kernel
theorem dL_notes_82 : decode cL_notes 82 = .ok (.iload 7, 2) := by decide +kernel
theorem dL_notes_84 : decode cL_notes 84 = .ok (.iconst 1, 1) := by decide +kernel
theorem dL_notes_85 : decode cL_notes 85 = .ok (.if_icmp .ne 7, 3) := by decide +kernel
theorem dL_notes_88 : decode cL_notes 88 = .ok (.iconst 1, 1) := by decide +kernel
theorem dL_notes_89 : decode cL_notes 89 = .ok (.goto 4, 3) := by decide +kernel
theorem dL_notes_92 : decode cL_notes 92 = .ok (.iconst 0, 1) := by decide +kernel
theorem dL_notes_93 : decode cL_notes 93 = .ok (.iadd, 1) := by decide +kernel
theorem dL_notes_94 : decode cL_notes 94 = .ok (.istore_n 1, 1) := by decide +kernel
theorem dL_notes_95 : decode cL_notes 95 = .ok (.iload_n 2, 1) := by decide +kernel
theorem dL_notes_96 : decode cL_notes 96 = .ok (.iload 7, 2) := by decide +kernel
theorem dL_notes_98 : decode cL_notes 98 = .ok (.iconst 2, 1) := by decide +kernel
theorem dL_notes_99 : decode cL_notes 99 = .ok (.if_icmp .ne 7, 3) := by decide +kernel
theorem dL_notes_102 : decode cL_notes 102 = .ok (.iconst 1, 1) := by decide +kernel
theorem dL_notes_103 : decode cL_notes 103 = .ok (.goto 4, 3) := by decide +kernel
theorem dL_notes_106 : decode cL_notes 106 = .ok (.iconst 0, 1) := by decide +kernel
theorem dL_notes_107 : decode cL_notes 107 = .ok (.iadd, 1) := by decide +kernel
theorem dL_notes_108 : decode cL_notes 108 = .ok (.istore_n 2, 1) := by decide +kernel
theorem dL_notes_109 : decode cL_notes 109 = .ok (.iload_n 3, 1) := by decide +kernel
theorem dL_notes_110 : decode cL_notes 110 = .ok (.iload 7, 2) := by decide +kernel
theorem dL_notes_112 : decode cL_notes 112 = .ok (.ifCond .ne 18, 3) := by decide +kernel
theorem dL_notes_115 : decode cL_notes 115 = .ok (.aload_n 0, 1) := by decide +kernel
theorem dL_notes_116 : decode cL_notes 116 = .ok (.iload 6, 2) := by decide +kernel
theorem dL_notes_118 : decode cL_notes 118 = .ok (.iconst 5, 1) := by decide +kernel
theorem dL_notes_119 : decode cL_notes 119 = .ok (.invokevirtual 15, 3) := by decide +kernel
theorem dL_notes_122 : decode cL_notes 122 = .ok (.iconst 1, 1) := by decide +kernel
theorem dL_notes_123 : decode cL_notes 123 = .ok (.if_icmp .le 7, 3) := by decide +kernel
theorem dL_notes_126 : decode cL_notes 126 = .ok (.iconst 1, 1) := by decide +kernel
theorem dL_notes_127 : decode cL_notes 127 = .ok (.goto 4, 3) := by decide +kernel
theorem dL_notes_130 : decode cL_notes 130 = .ok (.iconst 0, 1) := by decide +kernel
theorem dL_notes_131 : decode cL_notes 131 = .ok (.iadd, 1) := by decide +kernel
theorem dL_notes_132 : decode cL_notes 132 = .ok (.istore_n 3, 1) := by decide +kernel
theorem dL_notes_133 : decode cL_notes 133 = .ok (.iload 7, 2) := by decide +kernel
theorem dL_notes_135 : decode cL_notes 135 = .ok (.iconst 2, 1) := by decide +kernel
theorem dL_notes_136 : decode cL_notes 136 = .ok (.if_icmp .ne 7, 3) := by decide +kernel
theorem dL_notes_139 : decode cL_notes 139 = .ok (.iconst 1, 1) := by decide +kernel
theorem dL_notes_140 : decode cL_notes 140 = .ok (.goto 4, 3) := by decide +kernel
theorem dL_notes_143 : decode cL_notes 143 = .ok (.iconst 0, 1) := by decide +kernel
theorem dL_notes_144 : decode cL_notes 144 = .ok (.aload_n 0, 1) := by decide +kernel
theorem dL_notes_145 : decode cL_notes 145 = .ok (.iload 6, 2) := by decide +kernel
theorem dL_notes_147 : decode cL_notes 147 = .ok (.bipush 6, 2) := by decide +kernel
theorem dL_notes_149 : decode cL_notes 149 = .ok (.invokevirtual 15, 3) := by decide +kernel
theorem dL_notes_152 : decode cL_notes 152 = .ok (.ifCond .lt 7, 3) := by decide +kernel
theorem dL_notes_155 : decode cL_notes 155 = .ok (.iconst 1, 1) := by decide +kernel
theorem dL_notes_156 : decode cL_notes 156 = .ok (.goto 4, 3) := by decide +kernel
theorem dL_notes_159 : decode cL_notes 159 = .ok (.iconst 0, 1) := by decide +kernel
theorem dL_notes_160 : decode cL_notes 160 = .ok (.if_icmp .ne 61, 3) := by decide +kernel
theorem dL_notes_163 : decode cL_notes 163 = .ok (.iload 8, 2) := by decide +kernel
theorem dL_notes_165 : decode cL_notes 165 = .ok (.bipush (-6), 2) := by decide +kernel
theorem dL_notes_167 : decode cL_notes 167 = .ok (.if_icmp .ne 7, 3) := by decide +kernel
theorem dL_notes_170 : decode cL_notes 170 = .ok (.iconst 1, 1) := by decide +kernel
theorem dL_notes_171 : decode cL_notes 171 = .ok (.goto 4, 3) := by decide +kernel
theorem dL_notes_174 : decode cL_notes 174 = .ok (.iconst 0, 1) := by decide +kernel
theorem dL_notes_175 : decode cL_notes 175 = .ok (.iload 9, 2) := by decide +kernel
theorem dL_notes_177 : decode cL_notes 177 = .ok (.bipush (-6), 2) := by decide +kernel
theorem dL_notes_179 : decode cL_notes 179 = .ok (.if_icmp .ne 7, 3) := by decide +kernel
theorem dL_notes_182 : decode cL_notes 182 = .ok (.iconst 1, 1) := by decide +kernel
theorem dL_notes_183 : decode cL_notes 183 = .ok (.goto 4, 3) := by decide +kernel
theorem dL_notes_186 : decode cL_notes 186 = .ok (.iconst 0, 1) := by decide +kernel
theorem dL_notes_187 : decode cL_notes 187 = .ok (.if_icmp .ne 34, 3) := by decide +kernel
theorem dL_notes_190 : decode cL_notes 190 = .ok (.aload_n 0, 1) := by decide +kernel
theorem dL_notes_191 : decode cL_notes 191 = .ok (.iload 6, 2) := by decide +kernel
theorem dL_notes_193 : decode cL_notes 193 = .ok (.bipush 7, 2) := by decide +kernel
theorem dL_notes_195 : decode cL_notes 195 = .ok (.invokevirtual 15, 3) := by decide +kernel
theorem dL_notes_198 : decode cL_notes 198 = .ok (.ifCond .lt 23, 3) := by decide +kernel
theorem dL_notes_201 : decode cL_notes 201 = .ok (.aload_n 0, 1) := by decide +kernel
theorem dL_notes_202 : decode cL_notes 202 = .ok (.iload 6, 2) := by decide +kernel
theorem dL_notes_204 : decode cL_notes 204 = .ok (.bipush 7, 2) := by decide +kernel
theorem dL_notes_206 : decode cL_notes 206 = .ok (.invokevirtual 15, 3) := by decide +kernel
theorem dL_notes_209 : decode cL_notes 209 = .ok (.aload_n 0, 1) := by decide +kernel
theorem dL_notes_210 : decode cL_notes 210 = .ok (.iconst 1, 1) := by decide +kernel
theorem dL_notes_211 : decode cL_notes 211 = .ok (.invokevirtual 9, 3) := by decide +kernel
theorem dL_notes_214 : decode cL_notes 214 = .ok (.if_icmp .ge 7, 3) := by decide +kernel
theorem dL_notes_217 : decode cL_notes 217 = .ok (.iconst 1, 1) := by decide +kernel
theorem dL_notes_218 : decode cL_notes 218 = .ok (.goto 4, 3) := by decide +kernel
theorem dL_notes_221 : decode cL_notes 221 = .ok (.iconst 0, 1) := by decide +kernel
theorem dL_notes_222 : decode cL_notes 222 = .ok (.istore 5, 2) := by decide +kernel
theorem dL_notes_224 : decode cL_notes 224 = .ok (.iload 7, 2) := by decide +kernel
theorem dL_notes_226 : decode cL_notes 226 = .ok (.ifCond .ne 185, 3) := by decide +kernel
theorem dL_notes_229 : decode cL_notes 229 = .ok (.iload 5, 2) := by decide +kernel
theorem dL_notes_231 : decode cL_notes 231 = .ok (.ifCond .eq 90, 3) := by decide +kernel
theorem dL_notes_234 : decode cL_notes 234 = .ok (.iload 8, 2) := by decide +kernel
theorem dL_notes_236 : decode cL_notes 236 = .ok (.ifCond .lt 85, 3) := by decide +kernel
theorem dL_notes_239 : decode cL_notes 239 = .ok (.iload 9, 2) := by decide +kernel
theorem dL_notes_241 : decode cL_notes 241 = .ok (.iload 8, 2) := by decide +kernel
theorem dL_notes_243 : decode cL_notes 243 = .ok (.if_icmp .lt 78, 3) := by decide +kernel
theorem dL_notes_246 : decode cL_notes 246 = .ok (.iload 9, 2) := by decide +kernel
theorem dL_notes_248 : decode cL_notes 248 = .ok (.aload_n 0, 1) := by decide +kernel
theorem dL_notes_249 : decode cL_notes 249 = .ok (.iconst 0, 1) := by decide +kernel
theorem dL_notes_250 : decode cL_notes 250 = .ok (.invokevirtual 9, 3) := by decide +kernel
theorem dL_notes_253 : decode cL_notes 253 = .ok (.if_icmp .ge 68, 3) := by decide +kernel
theorem dL_notes_256 : decode cL_notes 256 = .ok (.aload_n 0, 1) := by decide +kernel
theorem dL_notes_257 : decode cL_notes 257 = .ok (.iload 6, 2) := by decide +kernel
theorem dL_notes_259 : decode cL_notes 259 = .ok (.iconst 4, 1) := by decide +kernel
