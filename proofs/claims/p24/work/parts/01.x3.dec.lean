theorem dJ9_min_7cf53_0 : decode cJ9_min_7cf53 0 = .ok (.iload_n 0, 1) := by decide +kernel
theorem dJ9_min_7cf53_1 : decode cJ9_min_7cf53 1 = .ok (.iload_n 1, 1) := by decide +kernel
theorem dJ9_min_7cf53_2 : decode cJ9_min_7cf53 2 = .ok (.if_icmp .gt 7, 3) := by decide +kernel
theorem dJ9_min_7cf53_5 : decode cJ9_min_7cf53 5 = .ok (.iload_n 0, 1) := by decide +kernel
theorem dJ9_min_7cf53_6 : decode cJ9_min_7cf53 6 = .ok (.goto 4, 3) := by decide +kernel
theorem dJ9_min_7cf53_9 : decode cJ9_min_7cf53 9 = .ok (.iload_n 1, 1) := by decide +kernel
theorem dJ9_min_7cf53_10 : decode cJ9_min_7cf53 10 = .ok (.ireturn, 1) := by decide +kernel
theorem dL_cell_0 : decode cL_cell 0 = .ok (.iload_n 1, 1) := by decide +kernel
theorem dL_cell_1 : decode cL_cell 1 = .ok (.aload_n 0, 1) := by decide +kernel
theorem dL_cell_2 : decode cL_cell 2 = .ok (.arraylength, 1) := by decide +kernel
theorem dL_cell_3 : decode cL_cell 3 = .ok (.if_icmp .ge 9, 3) := by decide +kernel
theorem dL_cell_6 : decode cL_cell 6 = .ok (.aload_n 0, 1) := by decide +kernel
theorem dL_cell_7 : decode cL_cell 7 = .ok (.iload_n 1, 1) := by decide +kernel
theorem dL_cell_8 : decode cL_cell 8 = .ok (.iaload, 1) := by decide +kernel
theorem dL_cell_9 : decode cL_cell 9 = .ok (.goto 11, 3) := by decide +kernel
theorem dL_cell_12 : decode cL_cell 12 = .ok (.ldc 7, 2) := by decide +kernel
theorem dL_cell_14 : decode cL_cell 14 = .ok (.iload_n 1, 1) := by decide +kernel
theorem dL_cell_15 : decode cL_cell 15 = .ok (.imul, 1) := by decide +kernel
theorem dL_cell_16 : decode cL_cell 16 = .ok (.sipush 24407, 3) := by decide +kernel
theorem dL_cell_19 : decode cL_cell 19 = .ok (.iadd, 1) := by decide +kernel
theorem dL_cell_20 : decode cL_cell 20 = .ok (.ireturn, 1) := by decide +kernel
theorem dL_low_0 : decode cL_low 0 = .ok (.iload_n 0, 1) := by decide +kernel
theorem dL_low_1 : decode cL_low 1 = .ok (.ldc 8, 2) := by decide +kernel
theorem dL_low_3 : decode cL_low 3 = .ok (.iand, 1) := by decide +kernel
theorem dL_low_4 : decode cL_low 4 = .ok (.iload_n 1, 1) := by decide +kernel
theorem dL_low_5 : decode cL_low 5 = .ok (.irem, 1) := by decide +kernel
theorem dL_low_6 : decode cL_low 6 = .ok (.ireturn, 1) := by decide +kernel
theorem dL_size_0 : decode cL_size 0 = .ok (.iconst 0, 1) := by decide +kernel
theorem dL_size_1 : decode cL_size 1 = .ok (.istore_n 1, 1) := by decide +kernel
theorem dL_size_2 : decode cL_size 2 = .ok (.iconst 0, 1) := by decide +kernel
theorem dL_size_3 : decode cL_size 3 = .ok (.istore_n 2, 1) := by decide +kernel
theorem dL_size_4 : decode cL_size 4 = .ok (.iload_n 2, 1) := by decide +kernel
theorem dL_size_5 : decode cL_size 5 = .ok (.bipush 16, 2) := by decide +kernel
theorem dL_size_7 : decode cL_size 7 = .ok (.if_icmp .ge 17, 3) := by decide +kernel
theorem dL_size_10 : decode cL_size 10 = .ok (.iload_n 1, 1) := by decide +kernel
theorem dL_size_11 : decode cL_size 11 = .ok (.iload_n 0, 1) := by decide +kernel
theorem dL_size_12 : decode cL_size 12 = .ok (.iload_n 2, 1) := by decide +kernel
theorem dL_size_13 : decode cL_size 13 = .ok (.ishr, 1) := by decide +kernel
theorem dL_size_14 : decode cL_size 14 = .ok (.iconst 1, 1) := by decide +kernel
theorem dL_size_15 : decode cL_size 15 = .ok (.iand, 1) := by decide +kernel
theorem dL_size_16 : decode cL_size 16 = .ok (.iadd, 1) := by decide +kernel
theorem dL_size_17 : decode cL_size 17 = .ok (.istore_n 1, 1) := by decide +kernel
theorem dL_size_18 : decode cL_size 18 = .ok (.iinc 2 1, 3) := by decide +kernel
theorem dL_size_21 : decode cL_size 21 = .ok (.goto (-17), 3) := by decide +kernel
theorem dL_size_24 : decode cL_size 24 = .ok (.iload_n 1, 1) := by decide +kernel
theorem dL_size_25 : decode cL_size 25 = .ok (.ireturn, 1) := by decide +kernel
theorem dL_draw_0 : decode cL_draw 0 = .ok (.bipush 75, 2) := by decide +kernel
theorem dL_draw_2 : decode cL_draw 2 = .ok (.iload_n 0, 1) := by decide +kernel
theorem dL_draw_3 : decode cL_draw 3 = .ok (.imul, 1) := by decide +kernel
theorem dL_draw_4 : decode cL_draw 4 = .ok (.bipush 74, 2) := by decide +kernel
theorem dL_draw_6 : decode cL_draw 6 = .ok (.iadd, 1) := by decide +kernel
theorem dL_draw_7 : decode cL_draw 7 = .ok (.ldc 9, 2) := by decide +kernel
theorem dL_draw_9 : decode cL_draw 9 = .ok (.irem, 1) := by decide +kernel
theorem dL_draw_10 : decode cL_draw 10 = .ok (.ireturn, 1) := by decide +kernel
theorem dL_droplet_0 : decode cL_droplet 0 = .ok (.aload_n 0, 1) := by decide +kernel
theorem dL_droplet_1 : decode cL_droplet 1 = .ok (.iconst 0, 1) := by decide +kernel
theorem dL_droplet_2 : decode cL_droplet 2 = .ok (.invokevirtual 10, 3) := by decide +kernel
theorem dL_droplet_5 : decode cL_droplet 5 = .ok (.istore_n 3, 1) := by decide +kernel
theorem dL_droplet_6 : decode cL_droplet 6 = .ok (.iload_n 2, 1) := by decide +kernel
theorem dL_droplet_7 : decode cL_droplet 7 = .ok (.invokestatic 16, 3) := by decide +kernel
theorem dL_droplet_10 : decode cL_droplet 10 = .ok (.istore 4, 2) := by decide +kernel
theorem dL_droplet_12 : decode cL_droplet 12 = .ok (.iload 4, 2) := by decide +kernel
theorem dL_droplet_14 : decode cL_droplet 14 = .ok (.bipush 100, 2) := by decide +kernel
theorem dL_droplet_16 : decode cL_droplet 16 = .ok (.irem, 1) := by decide +kernel
theorem dL_droplet_17 : decode cL_droplet 17 = .ok (.aload_n 0, 1) := by decide +kernel
theorem dL_droplet_18 : decode cL_droplet 18 = .ok (.iconst 5, 1) := by decide +kernel
theorem dL_droplet_19 : decode cL_droplet 19 = .ok (.invokevirtual 10, 3) := by decide +kernel
theorem dL_droplet_22 : decode cL_droplet 22 = .ok (.if_icmp .ge 7, 3) := by decide +kernel
theorem dL_droplet_25 : decode cL_droplet 25 = .ok (.iconst 1, 1) := by decide +kernel
theorem dL_droplet_26 : decode cL_droplet 26 = .ok (.goto 4, 3) := by decide +kernel
theorem dL_droplet_29 : decode cL_droplet 29 = .ok (.iconst 0, 1) := by decide +kernel
theorem dL_droplet_30 : decode cL_droplet 30 = .ok (.istore 5, 2) := by decide +kernel
theorem dL_droplet_32 : decode cL_droplet 32 = .ok (.iload 4, 2) := by decide +kernel
theorem dL_droplet_34 : decode cL_droplet 34 = .ok (.invokestatic 16, 3) := by decide +kernel
theorem dL_droplet_37 : decode cL_droplet 37 = .ok (.istore 4, 2) := by decide +kernel
theorem dL_droplet_39 : decode cL_droplet 39 = .ok (.iload 4, 2) := by decide +kernel
theorem dL_droplet_41 : decode cL_droplet 41 = .ok (.bipush 24, 2) := by decide +kernel
theorem dL_droplet_43 : decode cL_droplet 43 = .ok (.irem, 1) := by decide +kernel
theorem dL_droplet_44 : decode cL_droplet 44 = .ok (.istore 6, 2) := by decide +kernel
theorem dL_droplet_46 : decode cL_droplet 46 = .ok (.iload 6, 2) := by decide +kernel
theorem dL_droplet_48 : decode cL_droplet 48 = .ok (.iconst 4, 1) := by decide +kernel
theorem dL_droplet_49 : decode cL_droplet 49 = .ok (.if_icmp .ge 7, 3) := by decide +kernel
theorem dL_droplet_52 : decode cL_droplet 52 = .ok (.iconst 1, 1) := by decide +kernel
theorem dL_droplet_53 : decode cL_droplet 53 = .ok (.goto 26, 3) := by decide +kernel
theorem dL_droplet_56 : decode cL_droplet 56 = .ok (.iload 6, 2) := by decide +kernel
theorem dL_droplet_58 : decode cL_droplet 58 = .ok (.bipush 16, 2) := by decide +kernel
theorem dL_droplet_60 : decode cL_droplet 60 = .ok (.if_icmp .ge 7, 3) := by decide +kernel
theorem dL_droplet_63 : decode cL_droplet 63 = .ok (.iconst 2, 1) := by decide +kernel
theorem dL_droplet_64 : decode cL_droplet 64 = .ok (.goto 15, 3) := by decide +kernel
theorem dL_droplet_67 : decode cL_droplet 67 = .ok (.iload 6, 2) := by decide +kernel
theorem dL_droplet_69 : decode cL_droplet 69 = .ok (.bipush 20, 2) := by decide +kernel
theorem dL_droplet_71 : decode cL_droplet 71 = .ok (.if_icmp .ge 7, 3) := by decide +kernel
theorem dL_droplet_74 : decode cL_droplet 74 = .ok (.iconst 3, 1) := by decide +kernel
theorem dL_droplet_75 : decode cL_droplet 75 = .ok (.goto 4, 3) := by decide +kernel
theorem dL_droplet_78 : decode cL_droplet 78 = .ok (.iconst 4, 1) := by decide +kernel
theorem dL_droplet_79 : decode cL_droplet 79 = .ok (.istore 7, 2) := by decide +kernel
theorem dL_droplet_81 : decode cL_droplet 81 = .ok (.aload_n 0, 1) := by decide +kernel
theorem dL_droplet_82 : decode cL_droplet 82 = .ok (.iconst 4, 1) := by decide +kernel
theorem dL_droplet_83 : decode cL_droplet 83 = .ok (.invokevirtual 10, 3) := by decide +kernel
theorem dL_droplet_86 : decode cL_droplet 86 = .ok (.ifCond .ne 12, 3) := by decide +kernel
theorem dL_droplet_89 : decode cL_droplet 89 = .ok (.iconst 1, 1) := by decide +kernel
theorem dL_droplet_90 : decode cL_droplet 90 = .ok (.iload 4, 2) := by decide +kernel
theorem dL_droplet_92 : decode cL_droplet 92 = .ok (.iload_n 3, 1) := by decide +kernel
theorem dL_droplet_93 : decode cL_droplet 93 = .ok (.irem, 1) := by decide +kernel
theorem dL_droplet_94 : decode cL_droplet 94 = .ok (.iadd, 1) := by decide +kernel
theorem dL_droplet_95 : decode cL_droplet 95 = .ok (.goto 39, 3) := by decide +kernel
theorem dL_droplet_98 : decode cL_droplet 98 = .ok (.aload_n 0, 1) := by decide +kernel
theorem dL_droplet_99 : decode cL_droplet 99 = .ok (.iconst 4, 1) := by decide +kernel
theorem dL_droplet_100 : decode cL_droplet 100 = .ok (.invokevirtual 10, 3) := by decide +kernel
theorem dL_droplet_103 : decode cL_droplet 103 = .ok (.iconst 1, 1) := by decide +kernel
theorem dL_droplet_104 : decode cL_droplet 104 = .ok (.if_icmp .ne 18, 3) := by decide +kernel
theorem dL_droplet_107 : decode cL_droplet 107 = .ok (.iload 7, 2) := by decide +kernel
theorem dL_droplet_109 : decode cL_droplet 109 = .ok (.iload_n 3, 1) := by decide +kernel
theorem dL_droplet_110 : decode cL_droplet 110 = .ok (.if_icmp .ge 8, 3) := by decide +kernel
theorem dL_droplet_113 : decode cL_droplet 113 = .ok (.iload 7, 2) := by decide +kernel
theorem dL_droplet_115 : decode cL_droplet 115 = .ok (.goto 19, 3) := by decide +kernel
theorem dL_droplet_118 : decode cL_droplet 118 = .ok (.iload_n 3, 1) := by decide +kernel
theorem dL_droplet_119 : decode cL_droplet 119 = .ok (.goto 15, 3) := by decide +kernel
theorem dL_droplet_122 : decode cL_droplet 122 = .ok (.iload 4, 2) := by decide +kernel
theorem dL_droplet_124 : decode cL_droplet 124 = .ok (.iconst 4, 1) := by decide +kernel
theorem dL_droplet_125 : decode cL_droplet 125 = .ok (.irem, 1) := by decide +kernel
theorem dL_droplet_126 : decode cL_droplet 126 = .ok (.ifCond .ne 7, 3) := by decide +kernel
theorem dL_droplet_129 : decode cL_droplet 129 = .ok (.iconst 1, 1) := by decide +kernel
theorem dL_droplet_130 : decode cL_droplet 130 = .ok (.goto 4, 3) := by decide +kernel
theorem dL_droplet_133 : decode cL_droplet 133 = .ok (.iload_n 3, 1) := by decide +kernel
theorem dL_droplet_134 : decode cL_droplet 134 = .ok (.istore 8, 2) := by decide +kernel
theorem dL_droplet_136 : decode cL_droplet 136 = .ok (.iconst 0, 1) := by decide +kernel
theorem dL_droplet_137 : decode cL_droplet 137 = .ok (.istore 9, 2) := by decide +kernel
theorem dL_droplet_139 : decode cL_droplet 139 = .ok (.iconst 0, 1) := by decide +kernel
theorem dL_droplet_140 : decode cL_droplet 140 = .ok (.istore 10, 2) := by decide +kernel
theorem dL_droplet_142 : decode cL_droplet 142 = .ok (.iconst 0, 1) := by decide +kernel
theorem dL_droplet_143 : decode cL_droplet 143 = .ok (.istore 11, 2) := by decide +kernel
theorem dL_droplet_145 : decode cL_droplet 145 = .ok (.iload 11, 2) := by decide +kernel
theorem dL_droplet_147 : decode cL_droplet 147 = .ok (.iload 8, 2) := by decide +kernel
theorem dL_droplet_149 : decode cL_droplet 149 = .ok (.if_icmp .ge 74, 3) := by decide +kernel
theorem dL_droplet_152 : decode cL_droplet 152 = .ok (.iload 4, 2) := by decide +kernel
theorem dL_droplet_154 : decode cL_droplet 154 = .ok (.invokestatic 16, 3) := by decide +kernel
theorem dL_droplet_157 : decode cL_droplet 157 = .ok (.istore 4, 2) := by decide +kernel
theorem dL_droplet_159 : decode cL_droplet 159 = .ok (.iload 4, 2) := by decide +kernel
theorem dL_droplet_161 : decode cL_droplet 161 = .ok (.iload_n 3, 1) := by decide +kernel
theorem dL_droplet_162 : decode cL_droplet 162 = .ok (.irem, 1) := by decide +kernel
theorem dL_droplet_163 : decode cL_droplet 163 = .ok (.istore 12, 2) := by decide +kernel
theorem dL_droplet_165 : decode cL_droplet 165 = .ok (.iconst 0, 1) := by decide +kernel
theorem dL_droplet_166 : decode cL_droplet 166 = .ok (.istore 13, 2) := by decide +kernel
theorem dL_droplet_168 : decode cL_droplet 168 = .ok (.iload 13, 2) := by decide +kernel
theorem dL_droplet_170 : decode cL_droplet 170 = .ok (.iload_n 3, 1) := by decide +kernel
theorem dL_droplet_171 : decode cL_droplet 171 = .ok (.if_icmp .ge 28, 3) := by decide +kernel
theorem dL_droplet_174 : decode cL_droplet 174 = .ok (.iload 9, 2) := by decide +kernel
theorem dL_droplet_176 : decode cL_droplet 176 = .ok (.iload 12, 2) := by decide +kernel
theorem dL_droplet_178 : decode cL_droplet 178 = .ok (.ishr, 1) := by decide +kernel
theorem dL_droplet_179 : decode cL_droplet 179 = .ok (.iconst 1, 1) := by decide +kernel
theorem dL_droplet_180 : decode cL_droplet 180 = .ok (.iand, 1) := by decide +kernel
theorem dL_droplet_181 : decode cL_droplet 181 = .ok (.iconst 1, 1) := by decide +kernel
theorem dL_droplet_182 : decode cL_droplet 182 = .ok (.if_icmp .ne 17, 3) := by decide +kernel
theorem dL_droplet_185 : decode cL_droplet 185 = .ok (.iload 12, 2) := by decide +kernel
theorem dL_droplet_187 : decode cL_droplet 187 = .ok (.iconst 1, 1) := by decide +kernel
theorem dL_droplet_188 : decode cL_droplet 188 = .ok (.iadd, 1) := by decide +kernel
theorem dL_droplet_189 : decode cL_droplet 189 = .ok (.iload_n 3, 1) := by decide +kernel
theorem dL_droplet_190 : decode cL_droplet 190 = .ok (.irem, 1) := by decide +kernel
theorem dL_droplet_191 : decode cL_droplet 191 = .ok (.istore 12, 2) := by decide +kernel
theorem dL_droplet_193 : decode cL_droplet 193 = .ok (.iinc 13 1, 3) := by decide +kernel
theorem dL_droplet_196 : decode cL_droplet 196 = .ok (.goto (-28), 3) := by decide +kernel
theorem dL_droplet_199 : decode cL_droplet 199 = .ok (.iload 9, 2) := by decide +kernel
theorem dL_droplet_201 : decode cL_droplet 201 = .ok (.iconst 1, 1) := by decide +kernel
theorem dL_droplet_202 : decode cL_droplet 202 = .ok (.iload 12, 2) := by decide +kernel
theorem dL_droplet_204 : decode cL_droplet 204 = .ok (.ishl, 1) := by decide +kernel
theorem dL_droplet_205 : decode cL_droplet 205 = .ok (.ior, 1) := by decide +kernel
theorem dL_droplet_206 : decode cL_droplet 206 = .ok (.istore 9, 2) := by decide +kernel
theorem dL_droplet_208 : decode cL_droplet 208 = .ok (.iload 10, 2) := by decide +kernel
theorem dL_droplet_210 : decode cL_droplet 210 = .ok (.aload_n 1, 1) := by decide +kernel
theorem dL_droplet_211 : decode cL_droplet 211 = .ok (.iload 12, 2) := by decide +kernel
theorem dL_droplet_213 : decode cL_droplet 213 = .ok (.iaload, 1) := by decide +kernel
theorem dL_droplet_214 : decode cL_droplet 214 = .ok (.ixor, 1) := by decide +kernel
theorem dL_droplet_215 : decode cL_droplet 215 = .ok (.istore 10, 2) := by decide +kernel
theorem dL_droplet_217 : decode cL_droplet 217 = .ok (.iinc 11 1, 3) := by decide +kernel
theorem dL_droplet_220 : decode cL_droplet 220 = .ok (.goto (-75), 3) := by decide +kernel
theorem dL_droplet_223 : decode cL_droplet 223 = .ok (.aload_n 0, 1) := by decide +kernel
theorem dL_droplet_224 : decode cL_droplet 224 = .ok (.iload_n 2, 1) := by decide +kernel
theorem dL_droplet_225 : decode cL_droplet 225 = .ok (.iconst 0, 1) := by decide +kernel
theorem dL_droplet_226 : decode cL_droplet 226 = .ok (.invokevirtual 21, 3) := by decide +kernel
theorem dL_droplet_229 : decode cL_droplet 229 = .ok (.iload 8, 2) := by decide +kernel
theorem dL_droplet_231 : decode cL_droplet 231 = .ok (.if_icmp .ne 50, 3) := by decide +kernel
theorem dL_droplet_234 : decode cL_droplet 234 = .ok (.aload_n 0, 1) := by decide +kernel
theorem dL_droplet_235 : decode cL_droplet 235 = .ok (.iload_n 2, 1) := by decide +kernel
theorem dL_droplet_236 : decode cL_droplet 236 = .ok (.iconst 1, 1) := by decide +kernel
theorem dL_droplet_237 : decode cL_droplet 237 = .ok (.invokevirtual 21, 3) := by decide +kernel
theorem dL_droplet_240 : decode cL_droplet 240 = .ok (.iload 9, 2) := by decide +kernel
theorem dL_droplet_242 : decode cL_droplet 242 = .ok (.if_icmp .ne 39, 3) := by decide +kernel
theorem dL_droplet_245 : decode cL_droplet 245 = .ok (.aload_n 0, 1) := by decide +kernel
theorem dL_droplet_246 : decode cL_droplet 246 = .ok (.iload_n 2, 1) := by decide +kernel
theorem dL_droplet_247 : decode cL_droplet 247 = .ok (.iconst 2, 1) := by decide +kernel
theorem dL_droplet_248 : decode cL_droplet 248 = .ok (.invokevirtual 21, 3) := by decide +kernel
theorem dL_droplet_251 : decode cL_droplet 251 = .ok (.iload 10, 2) := by decide +kernel
theorem dL_droplet_253 : decode cL_droplet 253 = .ok (.if_icmp .ne 28, 3) := by decide +kernel
theorem dL_droplet_256 : decode cL_droplet 256 = .ok (.aload_n 0, 1) := by decide +kernel
theorem dL_droplet_257 : decode cL_droplet 257 = .ok (.iload_n 2, 1) := by decide +kernel
theorem dL_droplet_258 : decode cL_droplet 258 = .ok (.iconst 3, 1) := by decide +kernel
theorem dL_droplet_259 : decode cL_droplet 259 = .ok (.invokevirtual 21, 3) := by decide +kernel
theorem dL_droplet_262 : decode cL_droplet 262 = .ok (.iload 5, 2) := by decide +kernel
theorem dL_droplet_264 : decode cL_droplet 264 = .ok (.if_icmp .ne 17, 3) := by decide +kernel
theorem dL_droplet_267 : decode cL_droplet 267 = .ok (.iload 9, 2) := by decide +kernel
theorem dL_droplet_269 : decode cL_droplet 269 = .ok (.invokestatic 25, 3) := by decide +kernel
theorem dL_droplet_272 : decode cL_droplet 272 = .ok (.iload 8, 2) := by decide +kernel
theorem dL_droplet_274 : decode cL_droplet 274 = .ok (.if_icmp .ne 7, 3) := by decide +kernel
theorem dL_droplet_277 : decode cL_droplet 277 = .ok (.iconst 1, 1) := by decide +kernel
theorem dL_droplet_278 : decode cL_droplet 278 = .ok (.goto 4, 3) := by decide +kernel
theorem dL_droplet_281 : decode cL_droplet 281 = .ok (.iconst 0, 1) := by decide +kernel
theorem dL_droplet_282 : decode cL_droplet 282 = .ok (.ireturn, 1) := by decide +kernel
theorem dL_cup_0 : decode cL_cup 0 = .ok (.aload_n 0, 1) := by decide +kernel
theorem dL_cup_1 : decode cL_cup 1 = .ok (.iload_n 2, 1) := by decide +kernel
theorem dL_cup_2 : decode cL_cup 2 = .ok (.iconst 0, 1) := by decide +kernel
theorem dL_cup_3 : decode cL_cup 3 = .ok (.invokevirtual 28, 3) := by decide +kernel
theorem dL_cup_6 : decode cL_cup 6 = .ok (.istore_n 3, 1) := by decide +kernel
theorem dL_cup_7 : decode cL_cup 7 = .ok (.aload_n 0, 1) := by decide +kernel
theorem dL_cup_8 : decode cL_cup 8 = .ok (.iconst 0, 1) := by decide +kernel
theorem dL_cup_9 : decode cL_cup 9 = .ok (.invokevirtual 10, 3) := by decide +kernel
theorem dL_cup_12 : decode cL_cup 12 = .ok (.istore 4, 2) := by decide +kernel
theorem dL_cup_14 : decode cL_cup 14 = .ok (.iconst 0, 1) := by decide +kernel
theorem dL_cup_15 : decode cL_cup 15 = .ok (.istore 5, 2) := by decide +kernel
theorem dL_cup_17 : decode cL_cup 17 = .ok (.iload 5, 2) := by decide +kernel
theorem dL_cup_19 : decode cL_cup 19 = .ok (.iload 4, 2) := by decide +kernel
theorem dL_cup_21 : decode cL_cup 21 = .ok (.if_icmp .ge 40, 3) := by decide +kernel
theorem dL_cup_24 : decode cL_cup 24 = .ok (.aload_n 0, 1) := by decide +kernel
theorem dL_cup_25 : decode cL_cup 25 = .ok (.iload_n 2, 1) := by decide +kernel
theorem dL_cup_26 : decode cL_cup 26 = .ok (.iload 5, 2) := by decide +kernel
theorem dL_cup_28 : decode cL_cup 28 = .ok (.invokevirtual 31, 3) := by decide +kernel
theorem dL_cup_31 : decode cL_cup 31 = .ok (.iload_n 3, 1) := by decide +kernel
theorem dL_cup_32 : decode cL_cup 32 = .ok (.iload 5, 2) := by decide +kernel
theorem dL_cup_34 : decode cL_cup 34 = .ok (.ishr, 1) := by decide +kernel
theorem dL_cup_35 : decode cL_cup 35 = .ok (.iconst 1, 1) := by decide +kernel
theorem dL_cup_36 : decode cL_cup 36 = .ok (.iand, 1) := by decide +kernel
theorem dL_cup_37 : decode cL_cup 37 = .ok (.iconst 1, 1) := by decide +kernel
theorem dL_cup_38 : decode cL_cup 38 = .ok (.if_icmp .ne 10, 3) := by decide +kernel
theorem dL_cup_41 : decode cL_cup 41 = .ok (.aload_n 1, 1) := by decide +kernel
theorem dL_cup_42 : decode cL_cup 42 = .ok (.iload 5, 2) := by decide +kernel
theorem dL_cup_44 : decode cL_cup 44 = .ok (.iaload, 1) := by decide +kernel
theorem dL_cup_45 : decode cL_cup 45 = .ok (.goto 5, 3) := by decide +kernel
theorem dL_cup_48 : decode cL_cup 48 = .ok (.bipush (-6), 2) := by decide +kernel
theorem dL_cup_50 : decode cL_cup 50 = .ok (.if_icmp .eq 5, 3) := by decide +kernel
theorem dL_cup_53 : decode cL_cup 53 = .ok (.iconst 0, 1) := by decide +kernel
theorem dL_cup_54 : decode cL_cup 54 = .ok (.ireturn, 1) := by decide +kernel
theorem dL_cup_55 : decode cL_cup 55 = .ok (.iinc 5 1, 3) := by decide +kernel
theorem dL_cup_58 : decode cL_cup 58 = .ok (.goto (-41), 3) := by decide +kernel
theorem dL_cup_61 : decode cL_cup 61 = .ok (.aload_n 0, 1) := by decide +kernel
theorem dL_cup_62 : decode cL_cup 62 = .ok (.iload_n 2, 1) := by decide +kernel
theorem dL_cup_63 : decode cL_cup 63 = .ok (.iconst 1, 1) := by decide +kernel
theorem dL_cup_64 : decode cL_cup 64 = .ok (.invokevirtual 28, 3) := by decide +kernel
theorem dL_cup_67 : decode cL_cup 67 = .ok (.istore 5, 2) := by decide +kernel
theorem dL_cup_69 : decode cL_cup 69 = .ok (.iconst 0, 1) := by decide +kernel
theorem dL_cup_70 : decode cL_cup 70 = .ok (.istore 6, 2) := by decide +kernel
theorem dL_cup_72 : decode cL_cup 72 = .ok (.iload 6, 2) := by decide +kernel
theorem dL_cup_74 : decode cL_cup 74 = .ok (.iload 5, 2) := by decide +kernel
theorem dL_cup_76 : decode cL_cup 76 = .ok (.if_icmp .ge 101, 3) := by decide +kernel
theorem dL_cup_79 : decode cL_cup 79 = .ok (.aload_n 0, 1) := by decide +kernel
theorem dL_cup_80 : decode cL_cup 80 = .ok (.iload_n 2, 1) := by decide +kernel
theorem dL_cup_81 : decode cL_cup 81 = .ok (.iload 6, 2) := by decide +kernel
theorem dL_cup_83 : decode cL_cup 83 = .ok (.iconst 0, 1) := by decide +kernel
theorem dL_cup_84 : decode cL_cup 84 = .ok (.invokevirtual 34, 3) := by decide +kernel
theorem dL_cup_87 : decode cL_cup 87 = .ok (.istore 7, 2) := by decide +kernel
theorem dL_cup_89 : decode cL_cup 89 = .ok (.iconst 0, 1) := by decide +kernel
theorem dL_cup_90 : decode cL_cup 90 = .ok (.istore 8, 2) := by decide +kernel
theorem dL_cup_92 : decode cL_cup 92 = .ok (.iconst 0, 1) := by decide +kernel
theorem dL_cup_93 : decode cL_cup 93 = .ok (.istore 9, 2) := by decide +kernel
theorem dL_cup_95 : decode cL_cup 95 = .ok (.iload 9, 2) := by decide +kernel
theorem dL_cup_97 : decode cL_cup 97 = .ok (.iload 4, 2) := by decide +kernel
theorem dL_cup_99 : decode cL_cup 99 = .ok (.if_icmp .ge 33, 3) := by decide +kernel
theorem dL_cup_102 : decode cL_cup 102 = .ok (.iload 8, 2) := by decide +kernel
theorem dL_cup_104 : decode cL_cup 104 = .ok (.iload 7, 2) := by decide +kernel
theorem dL_cup_106 : decode cL_cup 106 = .ok (.iload 9, 2) := by decide +kernel
theorem dL_cup_108 : decode cL_cup 108 = .ok (.ishr, 1) := by decide +kernel
theorem dL_cup_109 : decode cL_cup 109 = .ok (.iconst 1, 1) := by decide +kernel
theorem dL_cup_110 : decode cL_cup 110 = .ok (.iand, 1) := by decide +kernel
theorem dL_cup_111 : decode cL_cup 111 = .ok (.iconst 1, 1) := by decide +kernel
theorem dL_cup_112 : decode cL_cup 112 = .ok (.if_icmp .ne 10, 3) := by decide +kernel
theorem dL_cup_115 : decode cL_cup 115 = .ok (.aload_n 1, 1) := by decide +kernel
theorem dL_cup_116 : decode cL_cup 116 = .ok (.iload 9, 2) := by decide +kernel
theorem dL_cup_118 : decode cL_cup 118 = .ok (.iaload, 1) := by decide +kernel
theorem dL_cup_119 : decode cL_cup 119 = .ok (.goto 4, 3) := by decide +kernel
theorem dL_cup_122 : decode cL_cup 122 = .ok (.iconst 0, 1) := by decide +kernel
theorem dL_cup_123 : decode cL_cup 123 = .ok (.ixor, 1) := by decide +kernel
theorem dL_cup_124 : decode cL_cup 124 = .ok (.istore 8, 2) := by decide +kernel
theorem dL_cup_126 : decode cL_cup 126 = .ok (.iinc 9 1, 3) := by decide +kernel
theorem dL_cup_129 : decode cL_cup 129 = .ok (.goto (-34), 3) := by decide +kernel
theorem dL_cup_132 : decode cL_cup 132 = .ok (.iload 7, 2) := by decide +kernel
theorem dL_cup_134 : decode cL_cup 134 = .ok (.invokestatic 25, 3) := by decide +kernel
theorem dL_cup_137 : decode cL_cup 137 = .ok (.iconst 2, 1) := by decide +kernel
theorem dL_cup_138 : decode cL_cup 138 = .ok (.if_icmp .lt 31, 3) := by decide +kernel
theorem dL_cup_141 : decode cL_cup 141 = .ok (.iload 7, 2) := by decide +kernel
theorem dL_cup_143 : decode cL_cup 143 = .ok (.iload_n 3, 1) := by decide +kernel
theorem dL_cup_144 : decode cL_cup 144 = .ok (.iand, 1) := by decide +kernel
theorem dL_cup_145 : decode cL_cup 145 = .ok (.ifCond .ne 24, 3) := by decide +kernel
theorem dL_cup_148 : decode cL_cup 148 = .ok (.iload 7, 2) := by decide +kernel
theorem dL_cup_150 : decode cL_cup 150 = .ok (.iload 4, 2) := by decide +kernel
theorem dL_cup_152 : decode cL_cup 152 = .ok (.ishr, 1) := by decide +kernel
theorem dL_cup_153 : decode cL_cup 153 = .ok (.ifCond .ne 16, 3) := by decide +kernel
theorem dL_cup_156 : decode cL_cup 156 = .ok (.aload_n 0, 1) := by decide +kernel
theorem dL_cup_157 : decode cL_cup 157 = .ok (.iload_n 2, 1) := by decide +kernel
theorem dL_cup_158 : decode cL_cup 158 = .ok (.iload 6, 2) := by decide +kernel
theorem dL_cup_160 : decode cL_cup 160 = .ok (.iconst 1, 1) := by decide +kernel
theorem dL_cup_161 : decode cL_cup 161 = .ok (.invokevirtual 34, 3) := by decide +kernel
theorem dL_cup_164 : decode cL_cup 164 = .ok (.iload 8, 2) := by decide +kernel
theorem dL_cup_166 : decode cL_cup 166 = .ok (.if_icmp .eq 5, 3) := by decide +kernel
theorem dL_cup_169 : decode cL_cup 169 = .ok (.iconst 0, 1) := by decide +kernel
theorem dL_cup_170 : decode cL_cup 170 = .ok (.ireturn, 1) := by decide +kernel
theorem dL_cup_171 : decode cL_cup 171 = .ok (.iinc 6 1, 3) := by decide +kernel
theorem dL_cup_174 : decode cL_cup 174 = .ok (.goto (-102), 3) := by decide +kernel
theorem dL_cup_177 : decode cL_cup 177 = .ok (.iload_n 3, 1) := by decide +kernel
theorem dL_cup_178 : decode cL_cup 178 = .ok (.invokestatic 25, 3) := by decide +kernel
theorem dL_cup_181 : decode cL_cup 181 = .ok (.iload 4, 2) := by decide +kernel
theorem dL_cup_183 : decode cL_cup 183 = .ok (.if_icmp .ne 7, 3) := by decide +kernel
theorem dL_cup_186 : decode cL_cup 186 = .ok (.iconst 1, 1) := by decide +kernel
theorem dL_cup_187 : decode cL_cup 187 = .ok (.goto 4, 3) := by decide +kernel
theorem dL_cup_190 : decode cL_cup 190 = .ok (.iconst 0, 1) := by decide +kernel
theorem dL_cup_191 : decode cL_cup 191 = .ok (.istore 6, 2) := by decide +kernel
theorem dL_cup_193 : decode cL_cup 193 = .ok (.aload_n 0, 1) := by decide +kernel
theorem dL_cup_194 : decode cL_cup 194 = .ok (.iload_n 2, 1) := by decide +kernel
theorem dL_cup_195 : decode cL_cup 195 = .ok (.bipush 6, 2) := by decide +kernel
theorem dL_cup_197 : decode cL_cup 197 = .ok (.invokevirtual 28, 3) := by decide +kernel
theorem dL_cup_200 : decode cL_cup 200 = .ok (.istore 7, 2) := by decide +kernel
theorem dL_cup_202 : decode cL_cup 202 = .ok (.iload 5, 2) := by decide +kernel
theorem dL_cup_204 : decode cL_cup 204 = .ok (.bipush 24, 2) := by decide +kernel
theorem dL_cup_206 : decode cL_cup 206 = .ok (.if_icmp .gt 108, 3) := by decide +kernel
theorem dL_cup_209 : decode cL_cup 209 = .ok (.aload_n 0, 1) := by decide +kernel
theorem dL_cup_210 : decode cL_cup 210 = .ok (.iload_n 2, 1) := by decide +kernel
theorem dL_cup_211 : decode cL_cup 211 = .ok (.iload 5, 2) := by decide +kernel
theorem dL_cup_213 : decode cL_cup 213 = .ok (.iconst 0, 1) := by decide +kernel
theorem dL_cup_214 : decode cL_cup 214 = .ok (.invokevirtual 34, 3) := by decide +kernel
theorem dL_cup_217 : decode cL_cup 217 = .ok (.iconst (-1), 1) := by decide +kernel
theorem dL_cup_218 : decode cL_cup 218 = .ok (.if_icmp .ne 96, 3) := by decide +kernel
theorem dL_cup_221 : decode cL_cup 221 = .ok (.aload_n 0, 1) := by decide +kernel
theorem dL_cup_222 : decode cL_cup 222 = .ok (.iload_n 2, 1) := by decide +kernel
theorem dL_cup_223 : decode cL_cup 223 = .ok (.iconst 5, 1) := by decide +kernel
theorem dL_cup_224 : decode cL_cup 224 = .ok (.invokevirtual 28, 3) := by decide +kernel
theorem dL_cup_227 : decode cL_cup 227 = .ok (.iload 6, 2) := by decide +kernel
theorem dL_cup_229 : decode cL_cup 229 = .ok (.ifCond .eq 7, 3) := by decide +kernel
theorem dL_cup_232 : decode cL_cup 232 = .ok (.iconst 1, 1) := by decide +kernel
theorem dL_cup_233 : decode cL_cup 233 = .ok (.goto 4, 3) := by decide +kernel
theorem dL_cup_236 : decode cL_cup 236 = .ok (.iconst 0, 1) := by decide +kernel
theorem dL_cup_237 : decode cL_cup 237 = .ok (.if_icmp .ne 77, 3) := by decide +kernel
theorem dL_cup_240 : decode cL_cup 240 = .ok (.aload_n 0, 1) := by decide +kernel
theorem dL_cup_241 : decode cL_cup 241 = .ok (.iconst 2, 1) := by decide +kernel
theorem dL_cup_242 : decode cL_cup 242 = .ok (.invokevirtual 10, 3) := by decide +kernel
theorem dL_cup_245 : decode cL_cup 245 = .ok (.iload_n 2, 1) := by decide +kernel
theorem dL_cup_246 : decode cL_cup 246 = .ok (.ishr, 1) := by decide +kernel
theorem dL_cup_247 : decode cL_cup 247 = .ok (.iconst 1, 1) := by decide +kernel
theorem dL_cup_248 : decode cL_cup 248 = .ok (.iand, 1) := by decide +kernel
theorem dL_cup_249 : decode cL_cup 249 = .ok (.iload 6, 2) := by decide +kernel
theorem dL_cup_251 : decode cL_cup 251 = .ok (.ifCond .eq 7, 3) := by decide +kernel
theorem dL_cup_254 : decode cL_cup 254 = .ok (.iconst 1, 1) := by decide +kernel
theorem dL_cup_255 : decode cL_cup 255 = .ok (.goto 4, 3) := by decide +kernel
theorem dL_cup_258 : decode cL_cup 258 = .ok (.iconst 0, 1) := by decide +kernel
theorem dL_cup_259 : decode cL_cup 259 = .ok (.if_icmp .ne 55, 3) := by decide +kernel
theorem dL_cup_262 : decode cL_cup 262 = .ok (.iload 7, 2) := by decide +kernel
theorem dL_cup_264 : decode cL_cup 264 = .ok (.iload_n 3, 1) := by decide +kernel
theorem dL_cup_265 : decode cL_cup 265 = .ok (.invokestatic 25, 3) := by decide +kernel
theorem dL_cup_268 : decode cL_cup 268 = .ok (.if_icmp .lt 46, 3) := by decide +kernel
theorem dL_cup_271 : decode cL_cup 271 = .ok (.iload 7, 2) := by decide +kernel
theorem dL_cup_273 : decode cL_cup 273 = .ok (.iload 4, 2) := by decide +kernel
theorem dL_cup_275 : decode cL_cup 275 = .ok (.if_icmp .gt 39, 3) := by decide +kernel
theorem dL_cup_278 : decode cL_cup 278 = .ok (.iload 6, 2) := by decide +kernel
theorem dL_cup_280 : decode cL_cup 280 = .ok (.ifCond .eq 8, 3) := by decide +kernel
theorem dL_cup_283 : decode cL_cup 283 = .ok (.iload 5, 2) := by decide +kernel
theorem dL_cup_285 : decode cL_cup 285 = .ok (.ifCond .ne 29, 3) := by decide +kernel
theorem dL_cup_288 : decode cL_cup 288 = .ok (.aload_n 0, 1) := by decide +kernel
theorem dL_cup_289 : decode cL_cup 289 = .ok (.iload_n 2, 1) := by decide +kernel
theorem dL_cup_290 : decode cL_cup 290 = .ok (.iconst 3, 1) := by decide +kernel
theorem dL_cup_291 : decode cL_cup 291 = .ok (.invokevirtual 28, 3) := by decide +kernel
theorem dL_cup_294 : decode cL_cup 294 = .ok (.aload_n 0, 1) := by decide +kernel
theorem dL_cup_295 : decode cL_cup 295 = .ok (.iload_n 2, 1) := by decide +kernel
theorem dL_cup_296 : decode cL_cup 296 = .ok (.iconst 4, 1) := by decide +kernel
theorem dL_cup_297 : decode cL_cup 297 = .ok (.invokevirtual 28, 3) := by decide +kernel
theorem dL_cup_300 : decode cL_cup 300 = .ok (.iadd, 1) := by decide +kernel
theorem dL_cup_301 : decode cL_cup 301 = .ok (.aload_n 0, 1) := by decide +kernel
theorem dL_cup_302 : decode cL_cup 302 = .ok (.iload_n 2, 1) := by decide +kernel
theorem dL_cup_303 : decode cL_cup 303 = .ok (.iconst 2, 1) := by decide +kernel
theorem dL_cup_304 : decode cL_cup 304 = .ok (.invokevirtual 28, 3) := by decide +kernel
theorem dL_cup_307 : decode cL_cup 307 = .ok (.if_icmp .gt 7, 3) := by decide +kernel
theorem dL_cup_310 : decode cL_cup 310 = .ok (.iconst 1, 1) := by decide +kernel
theorem dL_cup_311 : decode cL_cup 311 = .ok (.goto 4, 3) := by decide +kernel
theorem dL_cup_314 : decode cL_cup 314 = .ok (.iconst 0, 1) := by decide +kernel
theorem dL_cup_315 : decode cL_cup 315 = .ok (.ireturn, 1) := by decide +kernel
theorem dL_peeled_0 : decode cL_peeled 0 = .ok (.iload_n 1, 1) := by decide +kernel
theorem dL_peeled_1 : decode cL_peeled 1 = .ok (.iconst 1, 1) := by decide +kernel
theorem dL_peeled_2 : decode cL_peeled 2 = .ok (.iload_n 2, 1) := by decide +kernel
theorem dL_peeled_3 : decode cL_peeled 3 = .ok (.ishl, 1) := by decide +kernel
theorem dL_peeled_4 : decode cL_peeled 4 = .ok (.ior, 1) := by decide +kernel
theorem dL_peeled_5 : decode cL_peeled 5 = .ok (.istore_n 3, 1) := by decide +kernel
theorem dL_peeled_6 : decode cL_peeled 6 = .ok (.iconst 1, 1) := by decide +kernel
theorem dL_peeled_7 : decode cL_peeled 7 = .ok (.istore 4, 2) := by decide +kernel
theorem dL_peeled_9 : decode cL_peeled 9 = .ok (.iload 4, 2) := by decide +kernel
theorem dL_peeled_11 : decode cL_peeled 11 = .ok (.ifCond .eq 69, 3) := by decide +kernel
theorem dL_peeled_14 : decode cL_peeled 14 = .ok (.iconst 0, 1) := by decide +kernel
theorem dL_peeled_15 : decode cL_peeled 15 = .ok (.istore 4, 2) := by decide +kernel
theorem dL_peeled_17 : decode cL_peeled 17 = .ok (.iconst 0, 1) := by decide +kernel
theorem dL_peeled_18 : decode cL_peeled 18 = .ok (.istore 5, 2) := by decide +kernel
theorem dL_peeled_20 : decode cL_peeled 20 = .ok (.iload 5, 2) := by decide +kernel
theorem dL_peeled_22 : decode cL_peeled 22 = .ok (.bipush 24, 2) := by decide +kernel
theorem dL_peeled_24 : decode cL_peeled 24 = .ok (.if_icmp .ge 53, 3) := by decide +kernel
theorem dL_peeled_27 : decode cL_peeled 27 = .ok (.iload 4, 2) := by decide +kernel
theorem dL_peeled_29 : decode cL_peeled 29 = .ok (.ifCond .ne 48, 3) := by decide +kernel
theorem dL_peeled_32 : decode cL_peeled 32 = .ok (.aload_n 0, 1) := by decide +kernel
theorem dL_peeled_33 : decode cL_peeled 33 = .ok (.iload 5, 2) := by decide +kernel
theorem dL_peeled_35 : decode cL_peeled 35 = .ok (.iaload, 1) := by decide +kernel
theorem dL_peeled_36 : decode cL_peeled 36 = .ok (.iload_n 3, 1) := by decide +kernel
theorem dL_peeled_37 : decode cL_peeled 37 = .ok (.iconst (-1), 1) := by decide +kernel
theorem dL_peeled_38 : decode cL_peeled 38 = .ok (.ixor, 1) := by decide +kernel
theorem dL_peeled_39 : decode cL_peeled 39 = .ok (.iand, 1) := by decide +kernel
theorem dL_peeled_40 : decode cL_peeled 40 = .ok (.istore 6, 2) := by decide +kernel
theorem dL_peeled_42 : decode cL_peeled 42 = .ok (.aload_n 0, 1) := by decide +kernel
theorem dL_peeled_43 : decode cL_peeled 43 = .ok (.iload 5, 2) := by decide +kernel
theorem dL_peeled_45 : decode cL_peeled 45 = .ok (.iaload, 1) := by decide +kernel
theorem dL_peeled_46 : decode cL_peeled 46 = .ok (.ifCond .eq 25, 3) := by decide +kernel
theorem dL_peeled_49 : decode cL_peeled 49 = .ok (.iload 6, 2) := by decide +kernel
theorem dL_peeled_51 : decode cL_peeled 51 = .ok (.invokestatic 25, 3) := by decide +kernel
theorem dL_peeled_54 : decode cL_peeled 54 = .ok (.iconst 2, 1) := by decide +kernel
theorem dL_peeled_55 : decode cL_peeled 55 = .ok (.if_icmp .ge 16, 3) := by decide +kernel
theorem dL_peeled_58 : decode cL_peeled 58 = .ok (.aload_n 0, 1) := by decide +kernel
theorem dL_peeled_59 : decode cL_peeled 59 = .ok (.iload 5, 2) := by decide +kernel
theorem dL_peeled_61 : decode cL_peeled 61 = .ok (.iconst 0, 1) := by decide +kernel
theorem dL_peeled_62 : decode cL_peeled 62 = .ok (.iastore, 1) := by decide +kernel
theorem dL_peeled_63 : decode cL_peeled 63 = .ok (.iload_n 3, 1) := by decide +kernel
theorem dL_peeled_64 : decode cL_peeled 64 = .ok (.iload 6, 2) := by decide +kernel
theorem dL_peeled_66 : decode cL_peeled 66 = .ok (.ior, 1) := by decide +kernel
theorem dL_peeled_67 : decode cL_peeled 67 = .ok (.istore_n 3, 1) := by decide +kernel
theorem dL_peeled_68 : decode cL_peeled 68 = .ok (.iconst 1, 1) := by decide +kernel
theorem dL_peeled_69 : decode cL_peeled 69 = .ok (.istore 4, 2) := by decide +kernel
theorem dL_peeled_71 : decode cL_peeled 71 = .ok (.iinc 5 1, 3) := by decide +kernel
theorem dL_peeled_74 : decode cL_peeled 74 = .ok (.goto (-54), 3) := by decide +kernel
theorem dL_peeled_77 : decode cL_peeled 77 = .ok (.goto (-68), 3) := by decide +kernel
theorem dL_peeled_80 : decode cL_peeled 80 = .ok (.iload_n 3, 1) := by decide +kernel
theorem dL_peeled_81 : decode cL_peeled 81 = .ok (.ireturn, 1) := by decide +kernel
theorem dL_poured_0 : decode cL_poured 0 = .ok (.aload_n 0, 1) := by decide +kernel
theorem dL_poured_1 : decode cL_poured 1 = .ok (.iload_n 1, 1) := by decide +kernel
theorem dL_poured_2 : decode cL_poured 2 = .ok (.iconst 0, 1) := by decide +kernel
theorem dL_poured_3 : decode cL_poured 3 = .ok (.invokevirtual 28, 3) := by decide +kernel
theorem dL_poured_6 : decode cL_poured 6 = .ok (.istore_n 3, 1) := by decide +kernel
theorem dL_poured_7 : decode cL_poured 7 = .ok (.aload_n 0, 1) := by decide +kernel
theorem dL_poured_8 : decode cL_poured 8 = .ok (.iload_n 1, 1) := by decide +kernel
theorem dL_poured_9 : decode cL_poured 9 = .ok (.iconst 1, 1) := by decide +kernel
theorem dL_poured_10 : decode cL_poured 10 = .ok (.invokevirtual 28, 3) := by decide +kernel
theorem dL_poured_13 : decode cL_poured 13 = .ok (.istore 4, 2) := by decide +kernel
theorem dL_poured_15 : decode cL_poured 15 = .ok (.aload_n 0, 1) := by decide +kernel
theorem dL_poured_16 : decode cL_poured 16 = .ok (.iload_n 1, 1) := by decide +kernel
theorem dL_poured_17 : decode cL_poured 17 = .ok (.iconst 2, 1) := by decide +kernel
theorem dL_poured_18 : decode cL_poured 18 = .ok (.invokevirtual 28, 3) := by decide +kernel
theorem dL_poured_21 : decode cL_poured 21 = .ok (.istore 5, 2) := by decide +kernel
theorem dL_poured_23 : decode cL_poured 23 = .ok (.aload_n 0, 1) := by decide +kernel
theorem dL_poured_24 : decode cL_poured 24 = .ok (.iload_n 1, 1) := by decide +kernel
theorem dL_poured_25 : decode cL_poured 25 = .ok (.iconst 3, 1) := by decide +kernel
theorem dL_poured_26 : decode cL_poured 26 = .ok (.invokevirtual 28, 3) := by decide +kernel
theorem dL_poured_29 : decode cL_poured 29 = .ok (.istore 6, 2) := by decide +kernel
theorem dL_poured_31 : decode cL_poured 31 = .ok (.aload_n 0, 1) := by decide +kernel
theorem dL_poured_32 : decode cL_poured 32 = .ok (.iload_n 1, 1) := by decide +kernel
theorem dL_poured_33 : decode cL_poured 33 = .ok (.iconst 4, 1) := by decide +kernel
theorem dL_poured_34 : decode cL_poured 34 = .ok (.invokevirtual 28, 3) := by decide +kernel
theorem dL_poured_37 : decode cL_poured 37 = .ok (.istore 7, 2) := by decide +kernel
theorem dL_poured_39 : decode cL_poured 39 = .ok (.aload_n 0, 1) := by decide +kernel
theorem dL_poured_40 : decode cL_poured 40 = .ok (.iconst 3, 1) := by decide +kernel
theorem dL_poured_41 : decode cL_poured 41 = .ok (.invokevirtual 10, 3) := by decide +kernel
theorem dL_poured_44 : decode cL_poured 44 = .ok (.istore 8, 2) := by decide +kernel
theorem dL_poured_46 : decode cL_poured 46 = .ok (.aload_n 0, 1) := by decide +kernel
theorem dL_poured_47 : decode cL_poured 47 = .ok (.iload_n 1, 1) := by decide +kernel
theorem dL_poured_48 : decode cL_poured 48 = .ok (.iload_n 2, 1) := by decide +kernel
theorem dL_poured_49 : decode cL_poured 49 = .ok (.invokevirtual 38, 3) := by decide +kernel
theorem dL_poured_52 : decode cL_poured 52 = .ok (.istore 9, 2) := by decide +kernel
theorem dL_poured_54 : decode cL_poured 54 = .ok (.aload_n 0, 1) := by decide +kernel
theorem dL_poured_55 : decode cL_poured 55 = .ok (.iload_n 2, 1) := by decide +kernel
theorem dL_poured_56 : decode cL_poured 56 = .ok (.iconst 3, 1) := by decide +kernel
theorem dL_poured_57 : decode cL_poured 57 = .ok (.invokevirtual 21, 3) := by decide +kernel
theorem dL_poured_60 : decode cL_poured 60 = .ok (.iconst 1, 1) := by decide +kernel
theorem dL_poured_61 : decode cL_poured 61 = .ok (.if_icmp .ne 7, 3) := by decide +kernel
theorem dL_poured_64 : decode cL_poured 64 = .ok (.iconst 1, 1) := by decide +kernel
theorem dL_poured_65 : decode cL_poured 65 = .ok (.goto 4, 3) := by decide +kernel
theorem dL_poured_68 : decode cL_poured 68 = .ok (.iconst 0, 1) := by decide +kernel
theorem dL_poured_69 : decode cL_poured 69 = .ok (.istore 10, 2) := by decide +kernel
theorem dL_poured_71 : decode cL_poured 71 = .ok (.aload_n 0, 1) := by decide +kernel
theorem dL_poured_72 : decode cL_poured 72 = .ok (.iload_n 2, 1) := by decide +kernel
theorem dL_poured_73 : decode cL_poured 73 = .ok (.iconst 1, 1) := by decide +kernel
theorem dL_poured_74 : decode cL_poured 74 = .ok (.invokevirtual 21, 3) := by decide +kernel
theorem dL_poured_77 : decode cL_poured 77 = .ok (.iload_n 3, 1) := by decide +kernel
theorem dL_poured_78 : decode cL_poured 78 = .ok (.iconst (-1), 1) := by decide +kernel
theorem dL_poured_79 : decode cL_poured 79 = .ok (.ixor, 1) := by decide +kernel
theorem dL_poured_80 : decode cL_poured 80 = .ok (.iand, 1) := by decide +kernel
theorem dL_poured_81 : decode cL_poured 81 = .ok (.istore 11, 2) := by decide +kernel
theorem dL_poured_83 : decode cL_poured 83 = .ok (.bipush 25, 2) := by decide +kernel
theorem dL_poured_85 : decode cL_poured 85 = .ok (.newarray .int, 2) := by decide +kernel
theorem dL_poured_87 : decode cL_poured 87 = .ok (.astore 12, 2) := by decide +kernel
theorem dL_poured_89 : decode cL_poured 89 = .ok (.iconst 0, 1) := by decide +kernel
theorem dL_poured_90 : decode cL_poured 90 = .ok (.istore 13, 2) := by decide +kernel
theorem dL_poured_92 : decode cL_poured 92 = .ok (.iload 13, 2) := by decide +kernel
theorem dL_poured_94 : decode cL_poured 94 = .ok (.iload 4, 2) := by decide +kernel
theorem dL_poured_96 : decode cL_poured 96 = .ok (.if_icmp .ge 22, 3) := by decide +kernel
theorem dL_poured_99 : decode cL_poured 99 = .ok (.aload 12, 2) := by decide +kernel
theorem dL_poured_101 : decode cL_poured 101 = .ok (.iload 13, 2) := by decide +kernel
theorem dL_poured_103 : decode cL_poured 103 = .ok (.aload_n 0, 1) := by decide +kernel
theorem dL_poured_104 : decode cL_poured 104 = .ok (.iload_n 1, 1) := by decide +kernel
theorem dL_poured_105 : decode cL_poured 105 = .ok (.iload 13, 2) := by decide +kernel
theorem dL_poured_107 : decode cL_poured 107 = .ok (.iconst 0, 1) := by decide +kernel
theorem dL_poured_108 : decode cL_poured 108 = .ok (.invokevirtual 34, 3) := by decide +kernel
theorem dL_poured_111 : decode cL_poured 111 = .ok (.iastore, 1) := by decide +kernel
theorem dL_poured_112 : decode cL_poured 112 = .ok (.iinc 13 1, 3) := by decide +kernel
theorem dL_poured_115 : decode cL_poured 115 = .ok (.goto (-23), 3) := by decide +kernel
theorem dL_poured_118 : decode cL_poured 118 = .ok (.iload_n 3, 1) := by decide +kernel
theorem dL_poured_119 : decode cL_poured 119 = .ok (.istore 13, 2) := by decide +kernel
theorem dL_poured_121 : decode cL_poured 121 = .ok (.iload 10, 2) := by decide +kernel
theorem dL_poured_123 : decode cL_poured 123 = .ok (.ifCond .eq 7, 3) := by decide +kernel
theorem dL_poured_126 : decode cL_poured 126 = .ok (.iconst 0, 1) := by decide +kernel
theorem dL_poured_127 : decode cL_poured 127 = .ok (.goto 4, 3) := by decide +kernel
theorem dL_poured_130 : decode cL_poured 130 = .ok (.iconst 1, 1) := by decide +kernel
theorem dL_poured_131 : decode cL_poured 131 = .ok (.istore 14, 2) := by decide +kernel
theorem dL_poured_133 : decode cL_poured 133 = .ok (.iload 10, 2) := by decide +kernel
theorem dL_poured_135 : decode cL_poured 135 = .ok (.ifCond .ne 58, 3) := by decide +kernel
theorem dL_poured_138 : decode cL_poured 138 = .ok (.iload 11, 2) := by decide +kernel
theorem dL_poured_140 : decode cL_poured 140 = .ok (.invokestatic 25, 3) := by decide +kernel
theorem dL_poured_143 : decode cL_poured 143 = .ok (.iconst 1, 1) := by decide +kernel
theorem dL_poured_144 : decode cL_poured 144 = .ok (.if_icmp .ne 49, 3) := by decide +kernel
theorem dL_poured_147 : decode cL_poured 147 = .ok (.iconst 0, 1) := by decide +kernel
theorem dL_poured_148 : decode cL_poured 148 = .ok (.istore 15, 2) := by decide +kernel
theorem dL_poured_150 : decode cL_poured 150 = .ok (.iload 11, 2) := by decide +kernel
theorem dL_poured_152 : decode cL_poured 152 = .ok (.iload 15, 2) := by decide +kernel
theorem dL_poured_154 : decode cL_poured 154 = .ok (.ishr, 1) := by decide +kernel
theorem dL_poured_155 : decode cL_poured 155 = .ok (.iconst 1, 1) := by decide +kernel
theorem dL_poured_156 : decode cL_poured 156 = .ok (.iand, 1) := by decide +kernel
theorem dL_poured_157 : decode cL_poured 157 = .ok (.ifCond .ne 9, 3) := by decide +kernel
theorem dL_poured_160 : decode cL_poured 160 = .ok (.iinc 15 1, 3) := by decide +kernel
theorem dL_poured_163 : decode cL_poured 163 = .ok (.goto (-13), 3) := by decide +kernel
theorem dL_poured_166 : decode cL_poured 166 = .ok (.aload 12, 2) := by decide +kernel
theorem dL_poured_168 : decode cL_poured 168 = .ok (.iload_n 3, 1) := by decide +kernel
theorem dL_poured_169 : decode cL_poured 169 = .ok (.iload 15, 2) := by decide +kernel
theorem dL_poured_171 : decode cL_poured 171 = .ok (.invokestatic 41, 3) := by decide +kernel
theorem dL_poured_174 : decode cL_poured 174 = .ok (.istore 13, 2) := by decide +kernel
theorem dL_poured_176 : decode cL_poured 176 = .ok (.iconst 2, 1) := by decide +kernel
theorem dL_poured_177 : decode cL_poured 177 = .ok (.iload 13, 2) := by decide +kernel
theorem dL_poured_179 : decode cL_poured 179 = .ok (.invokestatic 25, 3) := by decide +kernel
theorem dL_poured_182 : decode cL_poured 182 = .ok (.iadd, 1) := by decide +kernel
theorem dL_poured_183 : decode cL_poured 183 = .ok (.iload_n 3, 1) := by decide +kernel
theorem dL_poured_184 : decode cL_poured 184 = .ok (.invokestatic 25, 3) := by decide +kernel
theorem dL_poured_187 : decode cL_poured 187 = .ok (.isub, 1) := by decide +kernel
theorem dL_poured_188 : decode cL_poured 188 = .ok (.istore 14, 2) := by decide +kernel
theorem dL_poured_190 : decode cL_poured 190 = .ok (.goto 30, 3) := by decide +kernel
theorem dL_poured_193 : decode cL_poured 193 = .ok (.iload 10, 2) := by decide +kernel
theorem dL_poured_195 : decode cL_poured 195 = .ok (.ifCond .ne 25, 3) := by decide +kernel
theorem dL_poured_198 : decode cL_poured 198 = .ok (.iload 11, 2) := by decide +kernel
theorem dL_poured_200 : decode cL_poured 200 = .ok (.ifCond .eq 20, 3) := by decide +kernel
theorem dL_poured_203 : decode cL_poured 203 = .ok (.iload 4, 2) := by decide +kernel
theorem dL_poured_205 : decode cL_poured 205 = .ok (.bipush 24, 2) := by decide +kernel
theorem dL_poured_207 : decode cL_poured 207 = .ok (.if_icmp .ge 13, 3) := by decide +kernel
theorem dL_poured_210 : decode cL_poured 210 = .ok (.aload 12, 2) := by decide +kernel
theorem dL_poured_212 : decode cL_poured 212 = .ok (.iload 4, 2) := by decide +kernel
theorem dL_poured_214 : decode cL_poured 214 = .ok (.iload 11, 2) := by decide +kernel
theorem dL_poured_216 : decode cL_poured 216 = .ok (.iastore, 1) := by decide +kernel
theorem dL_poured_217 : decode cL_poured 217 = .ok (.iconst 2, 1) := by decide +kernel
theorem dL_poured_218 : decode cL_poured 218 = .ok (.istore 14, 2) := by decide +kernel
theorem dL_poured_220 : decode cL_poured 220 = .ok (.aload_n 0, 1) := by decide +kernel
theorem dL_poured_221 : decode cL_poured 221 = .ok (.iload_n 1, 1) := by decide +kernel
theorem dL_poured_222 : decode cL_poured 222 = .ok (.iload_n 2, 1) := by decide +kernel
theorem dL_poured_223 : decode cL_poured 223 = .ok (.iconst 1, 1) := by decide +kernel
theorem dL_poured_224 : decode cL_poured 224 = .ok (.invokevirtual 45, 3) := by decide +kernel
theorem dL_poured_227 : decode cL_poured 227 = .ok (.istore 15, 2) := by decide +kernel
theorem dL_poured_229 : decode cL_poured 229 = .ok (.iload 9, 2) := by decide +kernel
theorem dL_poured_231 : decode cL_poured 231 = .ok (.iload 14, 2) := by decide +kernel
theorem dL_poured_233 : decode cL_poured 233 = .ok (.if_icmp .ne 41, 3) := by decide +kernel
theorem dL_poured_236 : decode cL_poured 236 = .ok (.iload 15, 2) := by decide +kernel
theorem dL_poured_238 : decode cL_poured 238 = .ok (.iload 13, 2) := by decide +kernel
theorem dL_poured_240 : decode cL_poured 240 = .ok (.invokestatic 25, 3) := by decide +kernel
theorem dL_poured_243 : decode cL_poured 243 = .ok (.iload_n 3, 1) := by decide +kernel
theorem dL_poured_244 : decode cL_poured 244 = .ok (.invokestatic 25, 3) := by decide +kernel
theorem dL_poured_247 : decode cL_poured 247 = .ok (.isub, 1) := by decide +kernel
theorem dL_poured_248 : decode cL_poured 248 = .ok (.if_icmp .ne 26, 3) := by decide +kernel
theorem dL_poured_251 : decode cL_poured 251 = .ok (.aload_n 0, 1) := by decide +kernel
theorem dL_poured_252 : decode cL_poured 252 = .ok (.iload_n 1, 1) := by decide +kernel
theorem dL_poured_253 : decode cL_poured 253 = .ok (.iconst 0, 1) := by decide +kernel
theorem dL_poured_254 : decode cL_poured 254 = .ok (.invokevirtual 28, 3) := by decide +kernel
theorem dL_poured_257 : decode cL_poured 257 = .ok (.iload 13, 2) := by decide +kernel
theorem dL_poured_259 : decode cL_poured 259 = .ok (.if_icmp .ne 15, 3) := by decide +kernel
theorem dL_poured_262 : decode cL_poured 262 = .ok (.aload_n 0, 1) := by decide +kernel
theorem dL_poured_263 : decode cL_poured 263 = .ok (.iconst 3, 1) := by decide +kernel
theorem dL_poured_264 : decode cL_poured 264 = .ok (.invokevirtual 10, 3) := by decide +kernel
theorem dL_poured_267 : decode cL_poured 267 = .ok (.iload 8, 2) := by decide +kernel
theorem dL_poured_269 : decode cL_poured 269 = .ok (.iconst 1, 1) := by decide +kernel
theorem dL_poured_270 : decode cL_poured 270 = .ok (.iadd, 1) := by decide +kernel
theorem dL_poured_271 : decode cL_poured 271 = .ok (.if_icmp .eq 5, 3) := by decide +kernel
theorem dL_poured_274 : decode cL_poured 274 = .ok (.iconst 0, 1) := by decide +kernel
theorem dL_poured_275 : decode cL_poured 275 = .ok (.ireturn, 1) := by decide +kernel
theorem dL_poured_276 : decode cL_poured 276 = .ok (.iconst 0, 1) := by decide +kernel
theorem dL_poured_277 : decode cL_poured 277 = .ok (.istore 16, 2) := by decide +kernel
theorem dL_poured_279 : decode cL_poured 279 = .ok (.iconst 0, 1) := by decide +kernel
theorem dL_poured_280 : decode cL_poured 280 = .ok (.istore 17, 2) := by decide +kernel
theorem dL_poured_282 : decode cL_poured 282 = .ok (.iload 17, 2) := by decide +kernel
theorem dL_poured_284 : decode cL_poured 284 = .ok (.bipush 25, 2) := by decide +kernel
theorem dL_poured_286 : decode cL_poured 286 = .ok (.if_icmp .ge 44, 3) := by decide +kernel
theorem dL_poured_289 : decode cL_poured 289 = .ok (.aload 12, 2) := by decide +kernel
theorem dL_poured_291 : decode cL_poured 291 = .ok (.iload 17, 2) := by decide +kernel
theorem dL_poured_293 : decode cL_poured 293 = .ok (.iaload, 1) := by decide +kernel
theorem dL_poured_294 : decode cL_poured 294 = .ok (.iload 13, 2) := by decide +kernel
theorem dL_poured_296 : decode cL_poured 296 = .ok (.iconst (-1), 1) := by decide +kernel
theorem dL_poured_297 : decode cL_poured 297 = .ok (.ixor, 1) := by decide +kernel
theorem dL_poured_298 : decode cL_poured 298 = .ok (.iand, 1) := by decide +kernel
theorem dL_poured_299 : decode cL_poured 299 = .ok (.istore 18, 2) := by decide +kernel
theorem dL_poured_301 : decode cL_poured 301 = .ok (.iload 18, 2) := by decide +kernel
theorem dL_poured_303 : decode cL_poured 303 = .ok (.ifCond .eq 21, 3) := by decide +kernel
theorem dL_poured_306 : decode cL_poured 306 = .ok (.aload_n 0, 1) := by decide +kernel
theorem dL_poured_307 : decode cL_poured 307 = .ok (.iload_n 1, 1) := by decide +kernel
theorem dL_poured_308 : decode cL_poured 308 = .ok (.iload 16, 2) := by decide +kernel
theorem dL_poured_310 : decode cL_poured 310 = .ok (.iconst 0, 1) := by decide +kernel
theorem dL_poured_311 : decode cL_poured 311 = .ok (.invokevirtual 34, 3) := by decide +kernel
theorem dL_poured_314 : decode cL_poured 314 = .ok (.iload 18, 2) := by decide +kernel
theorem dL_poured_316 : decode cL_poured 316 = .ok (.if_icmp .eq 5, 3) := by decide +kernel
theorem dL_poured_319 : decode cL_poured 319 = .ok (.iconst 0, 1) := by decide +kernel
theorem dL_poured_320 : decode cL_poured 320 = .ok (.ireturn, 1) := by decide +kernel
theorem dL_poured_321 : decode cL_poured 321 = .ok (.iinc 16 1, 3) := by decide +kernel
theorem dL_poured_324 : decode cL_poured 324 = .ok (.iinc 17 1, 3) := by decide +kernel
theorem dL_poured_327 : decode cL_poured 327 = .ok (.goto (-45), 3) := by decide +kernel
theorem dL_poured_330 : decode cL_poured 330 = .ok (.aload_n 0, 1) := by decide +kernel
theorem dL_poured_331 : decode cL_poured 331 = .ok (.iload_n 1, 1) := by decide +kernel
theorem dL_poured_332 : decode cL_poured 332 = .ok (.iconst 1, 1) := by decide +kernel
theorem dL_poured_333 : decode cL_poured 333 = .ok (.invokevirtual 28, 3) := by decide +kernel
theorem dL_poured_336 : decode cL_poured 336 = .ok (.iload 16, 2) := by decide +kernel
theorem dL_poured_338 : decode cL_poured 338 = .ok (.if_icmp .ne 65, 3) := by decide +kernel
theorem dL_poured_341 : decode cL_poured 341 = .ok (.aload_n 0, 1) := by decide +kernel
theorem dL_poured_342 : decode cL_poured 342 = .ok (.iload_n 1, 1) := by decide +kernel
theorem dL_poured_343 : decode cL_poured 343 = .ok (.iconst 2, 1) := by decide +kernel
theorem dL_poured_344 : decode cL_poured 344 = .ok (.invokevirtual 28, 3) := by decide +kernel
theorem dL_poured_347 : decode cL_poured 347 = .ok (.iload 5, 2) := by decide +kernel
theorem dL_poured_349 : decode cL_poured 349 = .ok (.iconst 1, 1) := by decide +kernel
theorem dL_poured_350 : decode cL_poured 350 = .ok (.iadd, 1) := by decide +kernel
theorem dL_poured_351 : decode cL_poured 351 = .ok (.if_icmp .ne 52, 3) := by decide +kernel
theorem dL_poured_354 : decode cL_poured 354 = .ok (.aload_n 0, 1) := by decide +kernel
theorem dL_poured_355 : decode cL_poured 355 = .ok (.iload_n 1, 1) := by decide +kernel
theorem dL_poured_356 : decode cL_poured 356 = .ok (.iconst 3, 1) := by decide +kernel
theorem dL_poured_357 : decode cL_poured 357 = .ok (.invokevirtual 28, 3) := by decide +kernel
theorem dL_poured_360 : decode cL_poured 360 = .ok (.iload 6, 2) := by decide +kernel
theorem dL_poured_362 : decode cL_poured 362 = .ok (.iload 10, 2) := by decide +kernel
theorem dL_poured_364 : decode cL_poured 364 = .ok (.ifCond .eq 7, 3) := by decide +kernel
theorem dL_poured_367 : decode cL_poured 367 = .ok (.iconst 1, 1) := by decide +kernel
theorem dL_poured_368 : decode cL_poured 368 = .ok (.goto 4, 3) := by decide +kernel
theorem dL_poured_371 : decode cL_poured 371 = .ok (.iconst 0, 1) := by decide +kernel
theorem dL_poured_372 : decode cL_poured 372 = .ok (.iadd, 1) := by decide +kernel
theorem dL_poured_373 : decode cL_poured 373 = .ok (.if_icmp .ne 30, 3) := by decide +kernel
theorem dL_poured_376 : decode cL_poured 376 = .ok (.aload_n 0, 1) := by decide +kernel
theorem dL_poured_377 : decode cL_poured 377 = .ok (.iload_n 1, 1) := by decide +kernel
theorem dL_poured_378 : decode cL_poured 378 = .ok (.iconst 4, 1) := by decide +kernel
theorem dL_poured_379 : decode cL_poured 379 = .ok (.invokevirtual 28, 3) := by decide +kernel
theorem dL_poured_382 : decode cL_poured 382 = .ok (.iload 7, 2) := by decide +kernel
theorem dL_poured_384 : decode cL_poured 384 = .ok (.iload 14, 2) := by decide +kernel
theorem dL_poured_386 : decode cL_poured 386 = .ok (.iconst 1, 1) := by decide +kernel
theorem dL_poured_387 : decode cL_poured 387 = .ok (.if_icmp .ne 7, 3) := by decide +kernel
theorem dL_poured_390 : decode cL_poured 390 = .ok (.iconst 1, 1) := by decide +kernel
theorem dL_poured_391 : decode cL_poured 391 = .ok (.goto 4, 3) := by decide +kernel
theorem dL_poured_394 : decode cL_poured 394 = .ok (.iconst 0, 1) := by decide +kernel
theorem dL_poured_395 : decode cL_poured 395 = .ok (.iadd, 1) := by decide +kernel
theorem dL_poured_396 : decode cL_poured 396 = .ok (.if_icmp .ne 7, 3) := by decide +kernel
theorem dL_poured_399 : decode cL_poured 399 = .ok (.iconst 1, 1) := by decide +kernel
theorem dL_poured_400 : decode cL_poured 400 = .ok (.goto 4, 3) := by decide +kernel
theorem dL_poured_403 : decode cL_poured 403 = .ok (.iconst 0, 1) := by decide +kernel
theorem dL_poured_404 : decode cL_poured 404 = .ok (.ireturn, 1) := by decide +kernel
theorem dL_act_0 : decode cL_act 0 = .ok (.iload_n 2, 1) := by decide +kernel
theorem dL_act_1 : decode cL_act 1 = .ok (.iconst 4, 1) := by decide +kernel
theorem dL_act_2 : decode cL_act 2 = .ok (.ishr, 1) := by decide +kernel
theorem dL_act_3 : decode cL_act 3 = .ok (.iload_n 1, 1) := by decide +kernel
theorem dL_act_4 : decode cL_act 4 = .ok (.invokestatic 48, 3) := by decide +kernel
theorem dL_act_7 : decode cL_act 7 = .ok (.istore 4, 2) := by decide +kernel
theorem dL_act_9 : decode cL_act 9 = .ok (.iload_n 2, 1) := by decide +kernel
theorem dL_act_10 : decode cL_act 10 = .ok (.bipush 14, 2) := by decide +kernel
theorem dL_act_12 : decode cL_act 12 = .ok (.invokestatic 48, 3) := by decide +kernel
theorem dL_act_15 : decode cL_act 15 = .ok (.istore 5, 2) := by decide +kernel
theorem dL_act_17 : decode cL_act 17 = .ok (.iload 5, 2) := by decide +kernel
theorem dL_act_19 : decode cL_act 19 = .ok (.ifCond .ne 77, 3) := by decide +kernel
theorem dL_act_22 : decode cL_act 22 = .ok (.iload_n 3, 1) := by decide +kernel
theorem dL_act_23 : decode cL_act 23 = .ok (.iconst 2, 1) := by decide +kernel
theorem dL_act_24 : decode cL_act 24 = .ok (.invokestatic 48, 3) := by decide +kernel
theorem dL_act_27 : decode cL_act 27 = .ok (.istore 6, 2) := by decide +kernel
theorem dL_act_29 : decode cL_act 29 = .ok (.aload_n 0, 1) := by decide +kernel
theorem dL_act_30 : decode cL_act 30 = .ok (.iconst 4, 1) := by decide +kernel
theorem dL_act_31 : decode cL_act 31 = .ok (.iload 6, 2) := by decide +kernel
theorem dL_act_33 : decode cL_act 33 = .ok (.iadd, 1) := by decide +kernel
theorem dL_act_34 : decode cL_act 34 = .ok (.invokevirtual 10, 3) := by decide +kernel
theorem dL_act_37 : decode cL_act 37 = .ok (.istore 7, 2) := by decide +kernel
theorem dL_act_39 : decode cL_act 39 = .ok (.iload 6, 2) := by decide +kernel
theorem dL_act_41 : decode cL_act 41 = .ok (.ifCond .ne 13, 3) := by decide +kernel
theorem dL_act_44 : decode cL_act 44 = .ok (.iload_n 3, 1) := by decide +kernel
theorem dL_act_45 : decode cL_act 45 = .ok (.iconst 2, 1) := by decide +kernel
theorem dL_act_46 : decode cL_act 46 = .ok (.ishr, 1) := by decide +kernel
theorem dL_act_47 : decode cL_act 47 = .ok (.iconst 3, 1) := by decide +kernel
theorem dL_act_48 : decode cL_act 48 = .ok (.invokestatic 48, 3) := by decide +kernel
theorem dL_act_51 : decode cL_act 51 = .ok (.goto 11, 3) := by decide +kernel
theorem dL_act_54 : decode cL_act 54 = .ok (.iload_n 3, 1) := by decide +kernel
theorem dL_act_55 : decode cL_act 55 = .ok (.iconst 2, 1) := by decide +kernel
theorem dL_act_56 : decode cL_act 56 = .ok (.ishr, 1) := by decide +kernel
theorem dL_act_57 : decode cL_act 57 = .ok (.bipush 60, 2) := by decide +kernel
theorem dL_act_59 : decode cL_act 59 = .ok (.invokestatic 48, 3) := by decide +kernel
theorem dL_act_62 : decode cL_act 62 = .ok (.istore 8, 2) := by decide +kernel
theorem dL_act_64 : decode cL_act 64 = .ok (.aload_n 0, 1) := by decide +kernel
theorem dL_act_65 : decode cL_act 65 = .ok (.iload 6, 2) := by decide +kernel
theorem dL_act_67 : decode cL_act 67 = .ok (.iload 8, 2) := by decide +kernel
theorem dL_act_69 : decode cL_act 69 = .ok (.invokevirtual 51, 3) := by decide +kernel
theorem dL_act_72 : decode cL_act 72 = .ok (.iload 7, 2) := by decide +kernel
theorem dL_act_74 : decode cL_act 74 = .ok (.if_icmp .ne 20, 3) := by decide +kernel
theorem dL_act_77 : decode cL_act 77 = .ok (.aload_n 0, 1) := by decide +kernel
theorem dL_act_78 : decode cL_act 78 = .ok (.iconst 4, 1) := by decide +kernel
theorem dL_act_79 : decode cL_act 79 = .ok (.iload 6, 2) := by decide +kernel
theorem dL_act_81 : decode cL_act 81 = .ok (.iadd, 1) := by decide +kernel
theorem dL_act_82 : decode cL_act 82 = .ok (.invokevirtual 10, 3) := by decide +kernel
theorem dL_act_85 : decode cL_act 85 = .ok (.iload 8, 2) := by decide +kernel
theorem dL_act_87 : decode cL_act 87 = .ok (.if_icmp .ne 7, 3) := by decide +kernel
theorem dL_act_90 : decode cL_act 90 = .ok (.iconst 1, 1) := by decide +kernel
theorem dL_act_91 : decode cL_act 91 = .ok (.goto 4, 3) := by decide +kernel
theorem dL_act_94 : decode cL_act 94 = .ok (.iconst 0, 1) := by decide +kernel
theorem dL_act_95 : decode cL_act 95 = .ok (.ireturn, 1) := by decide +kernel
theorem dL_act_96 : decode cL_act 96 = .ok (.iload 5, 2) := by decide +kernel
theorem dL_act_98 : decode cL_act 98 = .ok (.iconst 1, 1) := by decide +kernel
theorem dL_act_99 : decode cL_act 99 = .ok (.if_icmp .ne 80, 3) := by decide +kernel
theorem dL_act_102 : decode cL_act 102 = .ok (.iload_n 3, 1) := by decide +kernel
theorem dL_act_103 : decode cL_act 103 = .ok (.iconst 4, 1) := by decide +kernel
theorem dL_act_104 : decode cL_act 104 = .ok (.invokestatic 48, 3) := by decide +kernel
theorem dL_act_107 : decode cL_act 107 = .ok (.ifCond .ne 72, 3) := by decide +kernel
theorem dL_act_110 : decode cL_act 110 = .ok (.aload_n 0, 1) := by decide +kernel
theorem dL_act_111 : decode cL_act 111 = .ok (.iload 4, 2) := by decide +kernel
theorem dL_act_113 : decode cL_act 113 = .ok (.iconst 0, 1) := by decide +kernel
theorem dL_act_114 : decode cL_act 114 = .ok (.invokevirtual 28, 3) := by decide +kernel
theorem dL_act_117 : decode cL_act 117 = .ok (.invokestatic 25, 3) := by decide +kernel
theorem dL_act_120 : decode cL_act 120 = .ok (.istore 6, 2) := by decide +kernel
theorem dL_act_122 : decode cL_act 122 = .ok (.aload_n 0, 1) := by decide +kernel
theorem dL_act_123 : decode cL_act 123 = .ok (.iload 4, 2) := by decide +kernel
theorem dL_act_125 : decode cL_act 125 = .ok (.invokevirtual 54, 3) := by decide +kernel
theorem dL_act_128 : decode cL_act 128 = .ok (.iload 6, 2) := by decide +kernel
theorem dL_act_130 : decode cL_act 130 = .ok (.if_icmp .ne 47, 3) := by decide +kernel
theorem dL_act_133 : decode cL_act 133 = .ok (.aload_n 0, 1) := by decide +kernel
theorem dL_act_134 : decode cL_act 134 = .ok (.iload 4, 2) := by decide +kernel
theorem dL_act_136 : decode cL_act 136 = .ok (.iconst 0, 1) := by decide +kernel
theorem dL_act_137 : decode cL_act 137 = .ok (.invokevirtual 28, 3) := by decide +kernel
theorem dL_act_140 : decode cL_act 140 = .ok (.ifCond .ne 37, 3) := by decide +kernel
theorem dL_act_143 : decode cL_act 143 = .ok (.aload_n 0, 1) := by decide +kernel
theorem dL_act_144 : decode cL_act 144 = .ok (.iload 4, 2) := by decide +kernel
theorem dL_act_146 : decode cL_act 146 = .ok (.iconst 1, 1) := by decide +kernel
theorem dL_act_147 : decode cL_act 147 = .ok (.invokevirtual 28, 3) := by decide +kernel
theorem dL_act_150 : decode cL_act 150 = .ok (.ifCond .ne 27, 3) := by decide +kernel
theorem dL_act_153 : decode cL_act 153 = .ok (.aload_n 0, 1) := by decide +kernel
theorem dL_act_154 : decode cL_act 154 = .ok (.iload 4, 2) := by decide +kernel
theorem dL_act_156 : decode cL_act 156 = .ok (.iconst 2, 1) := by decide +kernel
theorem dL_act_157 : decode cL_act 157 = .ok (.invokevirtual 28, 3) := by decide +kernel
theorem dL_act_160 : decode cL_act 160 = .ok (.ifCond .ne 17, 3) := by decide +kernel
theorem dL_act_163 : decode cL_act 163 = .ok (.aload_n 0, 1) := by decide +kernel
theorem dL_act_164 : decode cL_act 164 = .ok (.iload 4, 2) := by decide +kernel
theorem dL_act_166 : decode cL_act 166 = .ok (.iconst 4, 1) := by decide +kernel
theorem dL_act_167 : decode cL_act 167 = .ok (.invokevirtual 28, 3) := by decide +kernel
theorem dL_act_170 : decode cL_act 170 = .ok (.ifCond .ne 7, 3) := by decide +kernel
theorem dL_act_173 : decode cL_act 173 = .ok (.iconst 1, 1) := by decide +kernel
theorem dL_act_174 : decode cL_act 174 = .ok (.goto 4, 3) := by decide +kernel
theorem dL_act_177 : decode cL_act 177 = .ok (.iconst 0, 1) := by decide +kernel
theorem dL_act_178 : decode cL_act 178 = .ok (.ireturn, 1) := by decide +kernel
theorem dL_act_179 : decode cL_act 179 = .ok (.iload 5, 2) := by decide +kernel
theorem dL_act_181 : decode cL_act 181 = .ok (.iconst 2, 1) := by decide +kernel
theorem dL_act_182 : decode cL_act 182 = .ok (.if_icmp .ne 82, 3) := by decide +kernel
theorem dL_act_185 : decode cL_act 185 = .ok (.aload_n 0, 1) := by decide +kernel
theorem dL_act_186 : decode cL_act 186 = .ok (.iload 4, 2) := by decide +kernel
theorem dL_act_188 : decode cL_act 188 = .ok (.iconst 0, 1) := by decide +kernel
theorem dL_act_189 : decode cL_act 189 = .ok (.invokevirtual 28, 3) := by decide +kernel
theorem dL_act_192 : decode cL_act 192 = .ok (.invokestatic 25, 3) := by decide +kernel
theorem dL_act_195 : decode cL_act 195 = .ok (.istore 6, 2) := by decide +kernel
theorem dL_act_197 : decode cL_act 197 = .ok (.aload_n 0, 1) := by decide +kernel
theorem dL_act_198 : decode cL_act 198 = .ok (.iload 4, 2) := by decide +kernel
theorem dL_act_200 : decode cL_act 200 = .ok (.bipush 6, 2) := by decide +kernel
theorem dL_act_202 : decode cL_act 202 = .ok (.invokevirtual 28, 3) := by decide +kernel
theorem dL_act_205 : decode cL_act 205 = .ok (.istore 7, 2) := by decide +kernel
theorem dL_act_207 : decode cL_act 207 = .ok (.aload_n 0, 1) := by decide +kernel
theorem dL_act_208 : decode cL_act 208 = .ok (.iload 4, 2) := by decide +kernel
theorem dL_act_210 : decode cL_act 210 = .ok (.invokevirtual 57, 3) := by decide +kernel
theorem dL_act_213 : decode cL_act 213 = .ok (.iload 7, 2) := by decide +kernel
theorem dL_act_215 : decode cL_act 215 = .ok (.iload 6, 2) := by decide +kernel
theorem dL_act_217 : decode cL_act 217 = .ok (.isub, 1) := by decide +kernel
theorem dL_act_218 : decode cL_act 218 = .ok (.if_icmp .ne 44, 3) := by decide +kernel
theorem dL_act_221 : decode cL_act 221 = .ok (.aload_n 0, 1) := by decide +kernel
theorem dL_act_222 : decode cL_act 222 = .ok (.iload 4, 2) := by decide +kernel
theorem dL_act_224 : decode cL_act 224 = .ok (.iconst 0, 1) := by decide +kernel
theorem dL_act_225 : decode cL_act 225 = .ok (.invokevirtual 28, 3) := by decide +kernel
theorem dL_act_228 : decode cL_act 228 = .ok (.invokestatic 25, 3) := by decide +kernel
theorem dL_act_231 : decode cL_act 231 = .ok (.iload 7, 2) := by decide +kernel
theorem dL_act_233 : decode cL_act 233 = .ok (.if_icmp .ne 29, 3) := by decide +kernel
theorem dL_act_236 : decode cL_act 236 = .ok (.aload_n 0, 1) := by decide +kernel
theorem dL_act_237 : decode cL_act 237 = .ok (.iload 4, 2) := by decide +kernel
theorem dL_act_239 : decode cL_act 239 = .ok (.bipush 6, 2) := by decide +kernel
theorem dL_act_241 : decode cL_act 241 = .ok (.invokevirtual 28, 3) := by decide +kernel
theorem dL_act_244 : decode cL_act 244 = .ok (.iload 7, 2) := by decide +kernel
theorem dL_act_246 : decode cL_act 246 = .ok (.if_icmp .ne 16, 3) := by decide +kernel
theorem dL_act_249 : decode cL_act 249 = .ok (.aload_n 0, 1) := by decide +kernel
theorem dL_act_250 : decode cL_act 250 = .ok (.iload 4, 2) := by decide +kernel
theorem dL_act_252 : decode cL_act 252 = .ok (.invokevirtual 57, 3) := by decide +kernel
theorem dL_act_255 : decode cL_act 255 = .ok (.ifCond .ne 7, 3) := by decide +kernel
theorem dL_act_258 : decode cL_act 258 = .ok (.iconst 1, 1) := by decide +kernel
theorem dL_act_259 : decode cL_act 259 = .ok (.goto 4, 3) := by decide +kernel
theorem dL_act_262 : decode cL_act 262 = .ok (.iconst 0, 1) := by decide +kernel
theorem dL_act_263 : decode cL_act 263 = .ok (.ireturn, 1) := by decide +kernel
theorem dL_act_264 : decode cL_act 264 = .ok (.aload_n 0, 1) := by decide +kernel
theorem dL_act_265 : decode cL_act 265 = .ok (.iload 4, 2) := by decide +kernel
theorem dL_act_267 : decode cL_act 267 = .ok (.iload_n 3, 1) := by decide +kernel
theorem dL_act_268 : decode cL_act 268 = .ok (.ldc 60, 2) := by decide +kernel
theorem dL_act_270 : decode cL_act 270 = .ok (.invokestatic 48, 3) := by decide +kernel
theorem dL_act_273 : decode cL_act 273 = .ok (.invokestatic 61, 3) := by decide +kernel
theorem dL_act_276 : decode cL_act 276 = .ok (.ireturn, 1) := by decide +kernel
