theorem dX9_a_0 : decode cX9_a 0 = .ok (.aload_n 0, 1) := by decide +kernel
theorem dX9_a_1 : decode cX9_a 1 = .ok (.getfield 9, 3) := by decide +kernel
theorem dX9_a_10 : decode cX9_a 10 = .ok (.i2l, 1) := by decide +kernel
theorem dX9_a_11 : decode cX9_a 11 = .ok (.lreturn, 1) := by decide +kernel
theorem dX9_a_4 : decode cX9_a 4 = .ok (.iconst 4, 1) := by decide +kernel
theorem dX9_a_5 : decode cX9_a 5 = .ok (.iload_n 1, 1) := by decide +kernel
theorem dX9_a_6 : decode cX9_a 6 = .ok (.imul, 1) := by decide +kernel
theorem dX9_a_7 : decode cX9_a 7 = .ok (.iload_n 2, 1) := by decide +kernel
theorem dX9_a_8 : decode cX9_a 8 = .ok (.iadd, 1) := by decide +kernel
theorem dX9_a_9 : decode cX9_a 9 = .ok (.iaload, 1) := by decide +kernel
theorem dX9_bits_0 : decode cX9_bits 0 = .ok (.iload_n 0, 1) := by decide +kernel
theorem dX9_bits_1 : decode cX9_bits 1 = .ok (.iconst 1, 1) := by decide +kernel
theorem dX9_bits_10 : decode cX9_bits 10 = .ok (.iconst 2, 1) := by decide +kernel
theorem dX9_bits_11 : decode cX9_bits 11 = .ok (.ishr, 1) := by decide +kernel
theorem dX9_bits_12 : decode cX9_bits 12 = .ok (.iconst 1, 1) := by decide +kernel
theorem dX9_bits_13 : decode cX9_bits 13 = .ok (.iand, 1) := by decide +kernel
theorem dX9_bits_14 : decode cX9_bits 14 = .ok (.iadd, 1) := by decide +kernel
theorem dX9_bits_15 : decode cX9_bits 15 = .ok (.iload_n 0, 1) := by decide +kernel
theorem dX9_bits_16 : decode cX9_bits 16 = .ok (.iconst 3, 1) := by decide +kernel
theorem dX9_bits_17 : decode cX9_bits 17 = .ok (.ishr, 1) := by decide +kernel
theorem dX9_bits_18 : decode cX9_bits 18 = .ok (.iconst 1, 1) := by decide +kernel
theorem dX9_bits_19 : decode cX9_bits 19 = .ok (.iand, 1) := by decide +kernel
theorem dX9_bits_2 : decode cX9_bits 2 = .ok (.iand, 1) := by decide +kernel
theorem dX9_bits_20 : decode cX9_bits 20 = .ok (.iadd, 1) := by decide +kernel
theorem dX9_bits_21 : decode cX9_bits 21 = .ok (.ireturn, 1) := by decide +kernel
theorem dX9_bits_3 : decode cX9_bits 3 = .ok (.iload_n 0, 1) := by decide +kernel
theorem dX9_bits_4 : decode cX9_bits 4 = .ok (.iconst 1, 1) := by decide +kernel
theorem dX9_bits_5 : decode cX9_bits 5 = .ok (.ishr, 1) := by decide +kernel
theorem dX9_bits_6 : decode cX9_bits 6 = .ok (.iconst 1, 1) := by decide +kernel
theorem dX9_bits_7 : decode cX9_bits 7 = .ok (.iand, 1) := by decide +kernel
theorem dX9_bits_8 : decode cX9_bits 8 = .ok (.iadd, 1) := by decide +kernel
theorem dX9_bits_9 : decode cX9_bits 9 = .ok (.iload_n 0, 1) := by decide +kernel
theorem dX9_findSteps_0 : decode cX9_findSteps 0 = .ok (.aload_n 0, 1) := by decide +kernel
theorem dX9_findSteps_1 : decode cX9_findSteps 1 = .ok (.getfield 105, 3) := by decide +kernel
theorem dX9_findSteps_10 : decode cX9_findSteps 10 = .ok (.putfield 105, 3) := by decide +kernel
theorem dX9_findSteps_100 : decode cX9_findSteps 100 = .ok (.sipush 1296, 3) := by decide +kernel
theorem dX9_findSteps_103 : decode cX9_findSteps 103 = .ok (.istore_n 1, 1) := by decide +kernel
theorem dX9_findSteps_104 : decode cX9_findSteps 104 = .ok (.aload_n 0, 1) := by decide +kernel
theorem dX9_findSteps_105 : decode cX9_findSteps 105 = .ok (.iconst 0, 1) := by decide +kernel
theorem dX9_findSteps_106 : decode cX9_findSteps 106 = .ok (.putfield 153, 3) := by decide +kernel
theorem dX9_findSteps_109 : decode cX9_findSteps 109 = .ok (.aload_n 0, 1) := by decide +kernel
theorem dX9_findSteps_110 : decode cX9_findSteps 110 = .ok (.iconst 0, 1) := by decide +kernel
theorem dX9_findSteps_111 : decode cX9_findSteps 111 = .ok (.putfield 163, 3) := by decide +kernel
theorem dX9_findSteps_114 : decode cX9_findSteps 114 = .ok (.aload_n 0, 1) := by decide +kernel
theorem dX9_findSteps_115 : decode cX9_findSteps 115 = .ok (.getfield 139, 3) := by decide +kernel
theorem dX9_findSteps_118 : decode cX9_findSteps 118 = .ok (.ifCond .ne 4, 3) := by decide +kernel
theorem dX9_findSteps_121 : decode cX9_findSteps 121 = .ok (.return_, 1) := by decide +kernel
theorem dX9_findSteps_122 : decode cX9_findSteps 122 = .ok (.aload_n 0, 1) := by decide +kernel
theorem dX9_findSteps_123 : decode cX9_findSteps 123 = .ok (.iconst 0, 1) := by decide +kernel
theorem dX9_findSteps_124 : decode cX9_findSteps 124 = .ok (.aload_n 0, 1) := by decide +kernel
theorem dX9_findSteps_125 : decode cX9_findSteps 125 = .ok (.getfield 139, 3) := by decide +kernel
theorem dX9_findSteps_128 : decode cX9_findSteps 128 = .ok (.iload_n 1, 1) := by decide +kernel
theorem dX9_findSteps_129 : decode cX9_findSteps 129 = .ok (.imul, 1) := by decide +kernel
theorem dX9_findSteps_13 : decode cX9_findSteps 13 = .ok (.aload_n 0, 1) := by decide +kernel
theorem dX9_findSteps_130 : decode cX9_findSteps 130 = .ok (.invokevirtual 156, 3) := by decide +kernel
theorem dX9_findSteps_133 : decode cX9_findSteps 133 = .ok (.iconst 0, 1) := by decide +kernel
theorem dX9_findSteps_134 : decode cX9_findSteps 134 = .ok (.istore_n 2, 1) := by decide +kernel
theorem dX9_findSteps_135 : decode cX9_findSteps 135 = .ok (.iload_n 2, 1) := by decide +kernel
theorem dX9_findSteps_136 : decode cX9_findSteps 136 = .ok (.sipush 6000, 3) := by decide +kernel
theorem dX9_findSteps_139 : decode cX9_findSteps 139 = .ok (.if_icmp .gt 16, 3) := by decide +kernel
theorem dX9_findSteps_14 : decode cX9_findSteps 14 = .ok (.aload_n 0, 1) := by decide +kernel
theorem dX9_findSteps_142 : decode cX9_findSteps 142 = .ok (.aload_n 0, 1) := by decide +kernel
theorem dX9_findSteps_143 : decode cX9_findSteps 143 = .ok (.getfield 59, 3) := by decide +kernel
theorem dX9_findSteps_146 : decode cX9_findSteps 146 = .ok (.iload_n 2, 1) := by decide +kernel
theorem dX9_findSteps_147 : decode cX9_findSteps 147 = .ok (.iconst 0, 1) := by decide +kernel
theorem dX9_findSteps_148 : decode cX9_findSteps 148 = .ok (.iastore, 1) := by decide +kernel
theorem dX9_findSteps_149 : decode cX9_findSteps 149 = .ok (.iinc 2 1, 3) := by decide +kernel
theorem dX9_findSteps_15 : decode cX9_findSteps 15 = .ok (.getfield 102, 3) := by decide +kernel
theorem dX9_findSteps_152 : decode cX9_findSteps 152 = .ok (.goto (-17), 3) := by decide +kernel
theorem dX9_findSteps_155 : decode cX9_findSteps 155 = .ok (.iconst 0, 1) := by decide +kernel
theorem dX9_findSteps_156 : decode cX9_findSteps 156 = .ok (.istore_n 2, 1) := by decide +kernel
theorem dX9_findSteps_157 : decode cX9_findSteps 157 = .ok (.iload_n 2, 1) := by decide +kernel
theorem dX9_findSteps_158 : decode cX9_findSteps 158 = .ok (.aload_n 0, 1) := by decide +kernel
theorem dX9_findSteps_159 : decode cX9_findSteps 159 = .ok (.getfield 153, 3) := by decide +kernel
theorem dX9_findSteps_162 : decode cX9_findSteps 162 = .ok (.if_icmp .ge 24, 3) := by decide +kernel
theorem dX9_findSteps_165 : decode cX9_findSteps 165 = .ok (.aload_n 0, 1) := by decide +kernel
theorem dX9_findSteps_166 : decode cX9_findSteps 166 = .ok (.getfield 59, 3) := by decide +kernel
theorem dX9_findSteps_169 : decode cX9_findSteps 169 = .ok (.aload_n 0, 1) := by decide +kernel
theorem dX9_findSteps_170 : decode cX9_findSteps 170 = .ok (.getfield 56, 3) := by decide +kernel
theorem dX9_findSteps_173 : decode cX9_findSteps 173 = .ok (.iload_n 2, 1) := by decide +kernel
theorem dX9_findSteps_174 : decode cX9_findSteps 174 = .ok (.iaload, 1) := by decide +kernel
theorem dX9_findSteps_175 : decode cX9_findSteps 175 = .ok (.dup2, 1) := by decide +kernel
theorem dX9_findSteps_176 : decode cX9_findSteps 176 = .ok (.iaload, 1) := by decide +kernel
theorem dX9_findSteps_177 : decode cX9_findSteps 177 = .ok (.iconst 1, 1) := by decide +kernel
theorem dX9_findSteps_178 : decode cX9_findSteps 178 = .ok (.iadd, 1) := by decide +kernel
theorem dX9_findSteps_179 : decode cX9_findSteps 179 = .ok (.iastore, 1) := by decide +kernel
theorem dX9_findSteps_18 : decode cX9_findSteps 18 = .ok (.aload_n 0, 1) := by decide +kernel
theorem dX9_findSteps_180 : decode cX9_findSteps 180 = .ok (.iinc 2 1, 3) := by decide +kernel
theorem dX9_findSteps_183 : decode cX9_findSteps 183 = .ok (.goto (-26), 3) := by decide +kernel
theorem dX9_findSteps_186 : decode cX9_findSteps 186 = .ok (.iconst 1, 1) := by decide +kernel
theorem dX9_findSteps_187 : decode cX9_findSteps 187 = .ok (.istore_n 2, 1) := by decide +kernel
theorem dX9_findSteps_188 : decode cX9_findSteps 188 = .ok (.iload_n 2, 1) := by decide +kernel
theorem dX9_findSteps_189 : decode cX9_findSteps 189 = .ok (.sipush 6000, 3) := by decide +kernel
theorem dX9_findSteps_19 : decode cX9_findSteps 19 = .ok (.getfield 47, 3) := by decide +kernel
theorem dX9_findSteps_192 : decode cX9_findSteps 192 = .ok (.if_icmp .gt 26, 3) := by decide +kernel
theorem dX9_findSteps_195 : decode cX9_findSteps 195 = .ok (.aload_n 0, 1) := by decide +kernel
theorem dX9_findSteps_196 : decode cX9_findSteps 196 = .ok (.getfield 59, 3) := by decide +kernel
theorem dX9_findSteps_199 : decode cX9_findSteps 199 = .ok (.iload_n 2, 1) := by decide +kernel
theorem dX9_findSteps_200 : decode cX9_findSteps 200 = .ok (.dup2, 1) := by decide +kernel
theorem dX9_findSteps_201 : decode cX9_findSteps 201 = .ok (.iaload, 1) := by decide +kernel
theorem dX9_findSteps_202 : decode cX9_findSteps 202 = .ok (.aload_n 0, 1) := by decide +kernel
theorem dX9_findSteps_203 : decode cX9_findSteps 203 = .ok (.getfield 59, 3) := by decide +kernel
theorem dX9_findSteps_206 : decode cX9_findSteps 206 = .ok (.iload_n 2, 1) := by decide +kernel
theorem dX9_findSteps_207 : decode cX9_findSteps 207 = .ok (.iconst 1, 1) := by decide +kernel
theorem dX9_findSteps_208 : decode cX9_findSteps 208 = .ok (.isub, 1) := by decide +kernel
theorem dX9_findSteps_209 : decode cX9_findSteps 209 = .ok (.iaload, 1) := by decide +kernel
theorem dX9_findSteps_210 : decode cX9_findSteps 210 = .ok (.iadd, 1) := by decide +kernel
theorem dX9_findSteps_211 : decode cX9_findSteps 211 = .ok (.iastore, 1) := by decide +kernel
theorem dX9_findSteps_212 : decode cX9_findSteps 212 = .ok (.iinc 2 1, 3) := by decide +kernel
theorem dX9_findSteps_215 : decode cX9_findSteps 215 = .ok (.goto (-27), 3) := by decide +kernel
theorem dX9_findSteps_218 : decode cX9_findSteps 218 = .ok (.aload_n 0, 1) := by decide +kernel
theorem dX9_findSteps_219 : decode cX9_findSteps 219 = .ok (.getfield 153, 3) := by decide +kernel
theorem dX9_findSteps_22 : decode cX9_findSteps 22 = .ok (.if_icmp .ge 10, 3) := by decide +kernel
theorem dX9_findSteps_222 : decode cX9_findSteps 222 = .ok (.iconst 1, 1) := by decide +kernel
theorem dX9_findSteps_223 : decode cX9_findSteps 223 = .ok (.isub, 1) := by decide +kernel
theorem dX9_findSteps_224 : decode cX9_findSteps 224 = .ok (.istore_n 2, 1) := by decide +kernel
theorem dX9_findSteps_225 : decode cX9_findSteps 225 = .ok (.iload_n 2, 1) := by decide +kernel
theorem dX9_findSteps_226 : decode cX9_findSteps 226 = .ok (.ifCond .lt 41, 3) := by decide +kernel
theorem dX9_findSteps_229 : decode cX9_findSteps 229 = .ok (.aload_n 0, 1) := by decide +kernel
theorem dX9_findSteps_230 : decode cX9_findSteps 230 = .ok (.getfield 59, 3) := by decide +kernel
theorem dX9_findSteps_233 : decode cX9_findSteps 233 = .ok (.aload_n 0, 1) := by decide +kernel
theorem dX9_findSteps_234 : decode cX9_findSteps 234 = .ok (.getfield 56, 3) := by decide +kernel
theorem dX9_findSteps_237 : decode cX9_findSteps 237 = .ok (.iload_n 2, 1) := by decide +kernel
theorem dX9_findSteps_238 : decode cX9_findSteps 238 = .ok (.iaload, 1) := by decide +kernel
theorem dX9_findSteps_239 : decode cX9_findSteps 239 = .ok (.dup2, 1) := by decide +kernel
theorem dX9_findSteps_240 : decode cX9_findSteps 240 = .ok (.iaload, 1) := by decide +kernel
theorem dX9_findSteps_241 : decode cX9_findSteps 241 = .ok (.iconst 1, 1) := by decide +kernel
theorem dX9_findSteps_242 : decode cX9_findSteps 242 = .ok (.isub, 1) := by decide +kernel
theorem dX9_findSteps_243 : decode cX9_findSteps 243 = .ok (.iastore, 1) := by decide +kernel
theorem dX9_findSteps_244 : decode cX9_findSteps 244 = .ok (.aload_n 0, 1) := by decide +kernel
theorem dX9_findSteps_245 : decode cX9_findSteps 245 = .ok (.getfield 62, 3) := by decide +kernel
theorem dX9_findSteps_248 : decode cX9_findSteps 248 = .ok (.aload_n 0, 1) := by decide +kernel
theorem dX9_findSteps_249 : decode cX9_findSteps 249 = .ok (.getfield 59, 3) := by decide +kernel
theorem dX9_findSteps_25 : decode cX9_findSteps 25 = .ok (.aload_n 0, 1) := by decide +kernel
theorem dX9_findSteps_252 : decode cX9_findSteps 252 = .ok (.aload_n 0, 1) := by decide +kernel
theorem dX9_findSteps_253 : decode cX9_findSteps 253 = .ok (.getfield 56, 3) := by decide +kernel
theorem dX9_findSteps_256 : decode cX9_findSteps 256 = .ok (.iload_n 2, 1) := by decide +kernel
theorem dX9_findSteps_257 : decode cX9_findSteps 257 = .ok (.iaload, 1) := by decide +kernel
theorem dX9_findSteps_258 : decode cX9_findSteps 258 = .ok (.iaload, 1) := by decide +kernel
theorem dX9_findSteps_259 : decode cX9_findSteps 259 = .ok (.iload_n 2, 1) := by decide +kernel
theorem dX9_findSteps_26 : decode cX9_findSteps 26 = .ok (.getfield 102, 3) := by decide +kernel
theorem dX9_findSteps_260 : decode cX9_findSteps 260 = .ok (.iastore, 1) := by decide +kernel
theorem dX9_findSteps_261 : decode cX9_findSteps 261 = .ok (.iinc 2 (-1), 3) := by decide +kernel
theorem dX9_findSteps_264 : decode cX9_findSteps 264 = .ok (.goto (-39), 3) := by decide +kernel
theorem dX9_findSteps_267 : decode cX9_findSteps 267 = .ok (.iconst 0, 1) := by decide +kernel
theorem dX9_findSteps_268 : decode cX9_findSteps 268 = .ok (.istore_n 2, 1) := by decide +kernel
theorem dX9_findSteps_269 : decode cX9_findSteps 269 = .ok (.iload_n 2, 1) := by decide +kernel
theorem dX9_findSteps_270 : decode cX9_findSteps 270 = .ok (.aload_n 0, 1) := by decide +kernel
theorem dX9_findSteps_271 : decode cX9_findSteps 271 = .ok (.getfield 153, 3) := by decide +kernel
theorem dX9_findSteps_274 : decode cX9_findSteps 274 = .ok (.if_icmp .ge 19, 3) := by decide +kernel
theorem dX9_findSteps_277 : decode cX9_findSteps 277 = .ok (.aload_n 0, 1) := by decide +kernel
theorem dX9_findSteps_278 : decode cX9_findSteps 278 = .ok (.aload_n 0, 1) := by decide +kernel
theorem dX9_findSteps_279 : decode cX9_findSteps 279 = .ok (.getfield 62, 3) := by decide +kernel
theorem dX9_findSteps_282 : decode cX9_findSteps 282 = .ok (.iload_n 2, 1) := by decide +kernel
theorem dX9_findSteps_283 : decode cX9_findSteps 283 = .ok (.iaload, 1) := by decide +kernel
theorem dX9_findSteps_284 : decode cX9_findSteps 284 = .ok (.invokevirtual 166, 3) := by decide +kernel
theorem dX9_findSteps_287 : decode cX9_findSteps 287 = .ok (.iinc 2 1, 3) := by decide +kernel
theorem dX9_findSteps_29 : decode cX9_findSteps 29 = .ok (.goto 7, 3) := by decide +kernel
theorem dX9_findSteps_290 : decode cX9_findSteps 290 = .ok (.goto (-21), 3) := by decide +kernel
theorem dX9_findSteps_293 : decode cX9_findSteps 293 = .ok (.aload_n 0, 1) := by decide +kernel
theorem dX9_findSteps_294 : decode cX9_findSteps 294 = .ok (.invokevirtual 170, 3) := by decide +kernel
theorem dX9_findSteps_297 : decode cX9_findSteps 297 = .ok (.return_, 1) := by decide +kernel
theorem dX9_findSteps_32 : decode cX9_findSteps 32 = .ok (.aload_n 0, 1) := by decide +kernel
theorem dX9_findSteps_33 : decode cX9_findSteps 33 = .ok (.getfield 47, 3) := by decide +kernel
theorem dX9_findSteps_36 : decode cX9_findSteps 36 = .ok (.putfield 142, 3) := by decide +kernel
theorem dX9_findSteps_39 : decode cX9_findSteps 39 = .ok (.aload_n 0, 1) := by decide +kernel
theorem dX9_findSteps_4 : decode cX9_findSteps 4 = .ok (.ifCond .eq 4, 3) := by decide +kernel
theorem dX9_findSteps_40 : decode cX9_findSteps 40 = .ok (.aload_n 0, 1) := by decide +kernel
theorem dX9_findSteps_41 : decode cX9_findSteps 41 = .ok (.getfield 142, 3) := by decide +kernel
theorem dX9_findSteps_44 : decode cX9_findSteps 44 = .ok (.invokevirtual 160, 3) := by decide +kernel
theorem dX9_findSteps_47 : decode cX9_findSteps 47 = .ok (.ifCond .ne 16, 3) := by decide +kernel
theorem dX9_findSteps_50 : decode cX9_findSteps 50 = .ok (.aload_n 0, 1) := by decide +kernel
theorem dX9_findSteps_51 : decode cX9_findSteps 51 = .ok (.dup, 1) := by decide +kernel
theorem dX9_findSteps_52 : decode cX9_findSteps 52 = .ok (.getfield 142, 3) := by decide +kernel
theorem dX9_findSteps_55 : decode cX9_findSteps 55 = .ok (.iconst 1, 1) := by decide +kernel
theorem dX9_findSteps_56 : decode cX9_findSteps 56 = .ok (.isub, 1) := by decide +kernel
theorem dX9_findSteps_57 : decode cX9_findSteps 57 = .ok (.putfield 142, 3) := by decide +kernel
theorem dX9_findSteps_60 : decode cX9_findSteps 60 = .ok (.goto (-21), 3) := by decide +kernel
theorem dX9_findSteps_63 : decode cX9_findSteps 63 = .ok (.aload_n 0, 1) := by decide +kernel
theorem dX9_findSteps_64 : decode cX9_findSteps 64 = .ok (.getfield 142, 3) := by decide +kernel
theorem dX9_findSteps_67 : decode cX9_findSteps 67 = .ok (.ifCond .ne 7, 3) := by decide +kernel
theorem dX9_findSteps_7 : decode cX9_findSteps 7 = .ok (.return_, 1) := by decide +kernel
theorem dX9_findSteps_70 : decode cX9_findSteps 70 = .ok (.iconst 1, 1) := by decide +kernel
theorem dX9_findSteps_71 : decode cX9_findSteps 71 = .ok (.goto 32, 3) := by decide +kernel
theorem dX9_findSteps_74 : decode cX9_findSteps 74 = .ok (.aload_n 0, 1) := by decide +kernel
theorem dX9_findSteps_75 : decode cX9_findSteps 75 = .ok (.getfield 142, 3) := by decide +kernel
theorem dX9_findSteps_78 : decode cX9_findSteps 78 = .ok (.iconst 1, 1) := by decide +kernel
theorem dX9_findSteps_79 : decode cX9_findSteps 79 = .ok (.if_icmp .ne 8, 3) := by decide +kernel
theorem dX9_findSteps_8 : decode cX9_findSteps 8 = .ok (.aload_n 0, 1) := by decide +kernel
theorem dX9_findSteps_82 : decode cX9_findSteps 82 = .ok (.bipush 6, 2) := by decide +kernel
theorem dX9_findSteps_84 : decode cX9_findSteps 84 = .ok (.goto 19, 3) := by decide +kernel
theorem dX9_findSteps_87 : decode cX9_findSteps 87 = .ok (.aload_n 0, 1) := by decide +kernel
theorem dX9_findSteps_88 : decode cX9_findSteps 88 = .ok (.getfield 142, 3) := by decide +kernel
theorem dX9_findSteps_9 : decode cX9_findSteps 9 = .ok (.iconst 1, 1) := by decide +kernel
theorem dX9_findSteps_91 : decode cX9_findSteps 91 = .ok (.iconst 2, 1) := by decide +kernel
theorem dX9_findSteps_92 : decode cX9_findSteps 92 = .ok (.if_icmp .ne 8, 3) := by decide +kernel
theorem dX9_findSteps_95 : decode cX9_findSteps 95 = .ok (.bipush 72, 2) := by decide +kernel
theorem dX9_findSteps_97 : decode cX9_findSteps 97 = .ok (.goto 6, 3) := by decide +kernel
theorem dX9_fitsIn_0 : decode cX9_fitsIn 0 = .ok (.iconst 0, 1) := by decide +kernel
theorem dX9_fitsIn_1 : decode cX9_fitsIn 1 = .ok (.istore 4, 2) := by decide +kernel
theorem dX9_fitsIn_10 : decode cX9_fitsIn 10 = .ok (.iconst 4, 1) := by decide +kernel
theorem dX9_fitsIn_11 : decode cX9_fitsIn 11 = .ok (.iload_n 1, 1) := by decide +kernel
theorem dX9_fitsIn_12 : decode cX9_fitsIn 12 = .ok (.imul, 1) := by decide +kernel
theorem dX9_fitsIn_13 : decode cX9_fitsIn 13 = .ok (.iload 4, 2) := by decide +kernel
theorem dX9_fitsIn_15 : decode cX9_fitsIn 15 = .ok (.iadd, 1) := by decide +kernel
theorem dX9_fitsIn_16 : decode cX9_fitsIn 16 = .ok (.iaload, 1) := by decide +kernel
theorem dX9_fitsIn_17 : decode cX9_fitsIn 17 = .ok (.istore 5, 2) := by decide +kernel
theorem dX9_fitsIn_19 : decode cX9_fitsIn 19 = .ok (.aload_n 2, 1) := by decide +kernel
theorem dX9_fitsIn_20 : decode cX9_fitsIn 20 = .ok (.iconst 4, 1) := by decide +kernel
theorem dX9_fitsIn_21 : decode cX9_fitsIn 21 = .ok (.iload_n 3, 1) := by decide +kernel
theorem dX9_fitsIn_22 : decode cX9_fitsIn 22 = .ok (.imul, 1) := by decide +kernel
theorem dX9_fitsIn_23 : decode cX9_fitsIn 23 = .ok (.iload 4, 2) := by decide +kernel
theorem dX9_fitsIn_25 : decode cX9_fitsIn 25 = .ok (.iadd, 1) := by decide +kernel
theorem dX9_fitsIn_26 : decode cX9_fitsIn 26 = .ok (.iaload, 1) := by decide +kernel
theorem dX9_fitsIn_27 : decode cX9_fitsIn 27 = .ok (.istore 6, 2) := by decide +kernel
theorem dX9_fitsIn_29 : decode cX9_fitsIn 29 = .ok (.iload 5, 2) := by decide +kernel
theorem dX9_fitsIn_3 : decode cX9_fitsIn 3 = .ok (.iload 4, 2) := by decide +kernel
theorem dX9_fitsIn_31 : decode cX9_fitsIn 31 = .ok (.ifCond .le 10, 3) := by decide +kernel
theorem dX9_fitsIn_34 : decode cX9_fitsIn 34 = .ok (.iload 5, 2) := by decide +kernel
theorem dX9_fitsIn_36 : decode cX9_fitsIn 36 = .ok (.iload 6, 2) := by decide +kernel
theorem dX9_fitsIn_38 : decode cX9_fitsIn 38 = .ok (.if_icmp .gt 15, 3) := by decide +kernel
theorem dX9_fitsIn_41 : decode cX9_fitsIn 41 = .ok (.iload 5, 2) := by decide +kernel
theorem dX9_fitsIn_43 : decode cX9_fitsIn 43 = .ok (.ifCond .ge 12, 3) := by decide +kernel
theorem dX9_fitsIn_46 : decode cX9_fitsIn 46 = .ok (.iload 5, 2) := by decide +kernel
theorem dX9_fitsIn_48 : decode cX9_fitsIn 48 = .ok (.iload 6, 2) := by decide +kernel
theorem dX9_fitsIn_5 : decode cX9_fitsIn 5 = .ok (.iconst 4, 1) := by decide +kernel
theorem dX9_fitsIn_50 : decode cX9_fitsIn 50 = .ok (.if_icmp .ge 5, 3) := by decide +kernel
theorem dX9_fitsIn_53 : decode cX9_fitsIn 53 = .ok (.iconst 0, 1) := by decide +kernel
theorem dX9_fitsIn_54 : decode cX9_fitsIn 54 = .ok (.ireturn, 1) := by decide +kernel
theorem dX9_fitsIn_55 : decode cX9_fitsIn 55 = .ok (.iinc 4 1, 3) := by decide +kernel
theorem dX9_fitsIn_58 : decode cX9_fitsIn 58 = .ok (.goto (-55), 3) := by decide +kernel
theorem dX9_fitsIn_6 : decode cX9_fitsIn 6 = .ok (.if_icmp .ge 55, 3) := by decide +kernel
theorem dX9_fitsIn_61 : decode cX9_fitsIn 61 = .ok (.iconst 1, 1) := by decide +kernel
theorem dX9_fitsIn_62 : decode cX9_fitsIn 62 = .ok (.ireturn, 1) := by decide +kernel
theorem dX9_fitsIn_9 : decode cX9_fitsIn 9 = .ok (.aload_n 0, 1) := by decide +kernel
theorem dX9_goes_0 : decode cX9_goes 0 = .ok (.iload_n 1, 1) := by decide +kernel
theorem dX9_goes_1 : decode cX9_goes 1 = .ok (.aload_n 0, 1) := by decide +kernel
theorem dX9_goes_10 : decode cX9_goes 10 = .ok (.invokevirtual 149, 3) := by decide +kernel
theorem dX9_goes_100 : decode cX9_goes 100 = .ok (.getfield 153, 3) := by decide +kernel
theorem dX9_goes_103 : decode cX9_goes 103 = .ok (.iconst 1, 1) := by decide +kernel
theorem dX9_goes_104 : decode cX9_goes 104 = .ok (.iadd, 1) := by decide +kernel
theorem dX9_goes_105 : decode cX9_goes 105 = .ok (.putfield 153, 3) := by decide +kernel
theorem dX9_goes_108 : decode cX9_goes 108 = .ok (.return_, 1) := by decide +kernel
theorem dX9_goes_109 : decode cX9_goes 109 = .ok (.iload_n 2, 1) := by decide +kernel
theorem dX9_goes_110 : decode cX9_goes 110 = .ok (.ineg, 1) := by decide +kernel
theorem dX9_goes_111 : decode cX9_goes 111 = .ok (.istore_n 3, 1) := by decide +kernel
theorem dX9_goes_112 : decode cX9_goes 112 = .ok (.iload_n 3, 1) := by decide +kernel
theorem dX9_goes_113 : decode cX9_goes 113 = .ok (.iload_n 2, 1) := by decide +kernel
theorem dX9_goes_114 : decode cX9_goes 114 = .ok (.if_icmp .gt 29, 3) := by decide +kernel
theorem dX9_goes_117 : decode cX9_goes 117 = .ok (.aload_n 0, 1) := by decide +kernel
theorem dX9_goes_118 : decode cX9_goes 118 = .ok (.getfield 80, 3) := by decide +kernel
theorem dX9_goes_121 : decode cX9_goes 121 = .ok (.aload_n 0, 1) := by decide +kernel
theorem dX9_goes_122 : decode cX9_goes 122 = .ok (.getfield 77, 3) := by decide +kernel
theorem dX9_goes_125 : decode cX9_goes 125 = .ok (.iload_n 1, 1) := by decide +kernel
theorem dX9_goes_126 : decode cX9_goes 126 = .ok (.iaload, 1) := by decide +kernel
theorem dX9_goes_127 : decode cX9_goes 127 = .ok (.iload_n 3, 1) := by decide +kernel
theorem dX9_goes_128 : decode cX9_goes 128 = .ok (.iastore, 1) := by decide +kernel
theorem dX9_goes_129 : decode cX9_goes 129 = .ok (.aload_n 0, 1) := by decide +kernel
theorem dX9_goes_13 : decode cX9_goes 13 = .ok (.ifCond .ne 4, 3) := by decide +kernel
theorem dX9_goes_130 : decode cX9_goes 130 = .ok (.iload_n 1, 1) := by decide +kernel
theorem dX9_goes_131 : decode cX9_goes 131 = .ok (.iconst 1, 1) := by decide +kernel
theorem dX9_goes_132 : decode cX9_goes 132 = .ok (.iadd, 1) := by decide +kernel
theorem dX9_goes_133 : decode cX9_goes 133 = .ok (.iload_n 2, 1) := by decide +kernel
theorem dX9_goes_134 : decode cX9_goes 134 = .ok (.invokevirtual 156, 3) := by decide +kernel
theorem dX9_goes_137 : decode cX9_goes 137 = .ok (.iinc 3 1, 3) := by decide +kernel
theorem dX9_goes_140 : decode cX9_goes 140 = .ok (.goto (-28), 3) := by decide +kernel
theorem dX9_goes_143 : decode cX9_goes 143 = .ok (.return_, 1) := by decide +kernel
theorem dX9_goes_16 : decode cX9_goes 16 = .ok (.return_, 1) := by decide +kernel
theorem dX9_goes_17 : decode cX9_goes 17 = .ok (.iconst 0, 1) := by decide +kernel
theorem dX9_goes_18 : decode cX9_goes 18 = .ok (.istore_n 3, 1) := by decide +kernel
theorem dX9_goes_19 : decode cX9_goes 19 = .ok (.iconst 0, 1) := by decide +kernel
theorem dX9_goes_2 : decode cX9_goes 2 = .ok (.getfield 139, 3) := by decide +kernel
theorem dX9_goes_20 : decode cX9_goes 20 = .ok (.istore 4, 2) := by decide +kernel
theorem dX9_goes_22 : decode cX9_goes 22 = .ok (.iload 4, 2) := by decide +kernel
theorem dX9_goes_24 : decode cX9_goes 24 = .ok (.iconst 4, 1) := by decide +kernel
theorem dX9_goes_25 : decode cX9_goes 25 = .ok (.if_icmp .ge 63, 3) := by decide +kernel
theorem dX9_goes_28 : decode cX9_goes 28 = .ok (.iload 4, 2) := by decide +kernel
theorem dX9_goes_30 : decode cX9_goes 30 = .ok (.aload_n 0, 1) := by decide +kernel
theorem dX9_goes_31 : decode cX9_goes 31 = .ok (.getfield 47, 3) := by decide +kernel
theorem dX9_goes_34 : decode cX9_goes 34 = .ok (.if_icmp .ge 13, 3) := by decide +kernel
theorem dX9_goes_37 : decode cX9_goes 37 = .ok (.aload_n 0, 1) := by decide +kernel
theorem dX9_goes_38 : decode cX9_goes 38 = .ok (.getfield 80, 3) := by decide +kernel
theorem dX9_goes_41 : decode cX9_goes 41 = .ok (.iload 4, 2) := by decide +kernel
theorem dX9_goes_43 : decode cX9_goes 43 = .ok (.iaload, 1) := by decide +kernel
theorem dX9_goes_44 : decode cX9_goes 44 = .ok (.goto 4, 3) := by decide +kernel
theorem dX9_goes_47 : decode cX9_goes 47 = .ok (.iconst 0, 1) := by decide +kernel
theorem dX9_goes_48 : decode cX9_goes 48 = .ok (.istore 5, 2) := by decide +kernel
theorem dX9_goes_5 : decode cX9_goes 5 = .ok (.if_icmp .ne 104, 3) := by decide +kernel
theorem dX9_goes_50 : decode cX9_goes 50 = .ok (.aload_n 0, 1) := by decide +kernel
theorem dX9_goes_51 : decode cX9_goes 51 = .ok (.getfield 52, 3) := by decide +kernel
theorem dX9_goes_54 : decode cX9_goes 54 = .ok (.iconst 4, 1) := by decide +kernel
theorem dX9_goes_55 : decode cX9_goes 55 = .ok (.aload_n 0, 1) := by decide +kernel
theorem dX9_goes_56 : decode cX9_goes 56 = .ok (.getfield 153, 3) := by decide +kernel
theorem dX9_goes_59 : decode cX9_goes 59 = .ok (.imul, 1) := by decide +kernel
theorem dX9_goes_60 : decode cX9_goes 60 = .ok (.iload 4, 2) := by decide +kernel
theorem dX9_goes_62 : decode cX9_goes 62 = .ok (.iadd, 1) := by decide +kernel
theorem dX9_goes_63 : decode cX9_goes 63 = .ok (.iload 5, 2) := by decide +kernel
theorem dX9_goes_65 : decode cX9_goes 65 = .ok (.iastore, 1) := by decide +kernel
theorem dX9_goes_66 : decode cX9_goes 66 = .ok (.iload_n 3, 1) := by decide +kernel
theorem dX9_goes_67 : decode cX9_goes 67 = .ok (.iload 5, 2) := by decide +kernel
theorem dX9_goes_69 : decode cX9_goes 69 = .ok (.ifCond .ge 9, 3) := by decide +kernel
theorem dX9_goes_72 : decode cX9_goes 72 = .ok (.iload 5, 2) := by decide +kernel
theorem dX9_goes_74 : decode cX9_goes 74 = .ok (.ineg, 1) := by decide +kernel
theorem dX9_goes_75 : decode cX9_goes 75 = .ok (.goto 5, 3) := by decide +kernel
theorem dX9_goes_78 : decode cX9_goes 78 = .ok (.iload 5, 2) := by decide +kernel
theorem dX9_goes_8 : decode cX9_goes 8 = .ok (.aload_n 0, 1) := by decide +kernel
theorem dX9_goes_80 : decode cX9_goes 80 = .ok (.iadd, 1) := by decide +kernel
theorem dX9_goes_81 : decode cX9_goes 81 = .ok (.istore_n 3, 1) := by decide +kernel
theorem dX9_goes_82 : decode cX9_goes 82 = .ok (.iinc 4 1, 3) := by decide +kernel
theorem dX9_goes_85 : decode cX9_goes 85 = .ok (.goto (-63), 3) := by decide +kernel
theorem dX9_goes_88 : decode cX9_goes 88 = .ok (.aload_n 0, 1) := by decide +kernel
theorem dX9_goes_89 : decode cX9_goes 89 = .ok (.getfield 56, 3) := by decide +kernel
theorem dX9_goes_9 : decode cX9_goes 9 = .ok (.iload_n 2, 1) := by decide +kernel
theorem dX9_goes_92 : decode cX9_goes 92 = .ok (.aload_n 0, 1) := by decide +kernel
theorem dX9_goes_93 : decode cX9_goes 93 = .ok (.getfield 153, 3) := by decide +kernel
theorem dX9_goes_96 : decode cX9_goes 96 = .ok (.iload_n 3, 1) := by decide +kernel
theorem dX9_goes_97 : decode cX9_goes 97 = .ok (.iastore, 1) := by decide +kernel
theorem dX9_goes_98 : decode cX9_goes 98 = .ok (.aload_n 0, 1) := by decide +kernel
theorem dX9_goes_99 : decode cX9_goes 99 = .ok (.dup, 1) := by decide +kernel
theorem dX9_isBefore_0 : decode cX9_isBefore 0 = .ok (.iconst 0, 1) := by decide +kernel
theorem dX9_isBefore_1 : decode cX9_isBefore 1 = .ok (.istore_n 3, 1) := by decide +kernel
theorem dX9_isBefore_11 : decode cX9_isBefore 11 = .ok (.iconst 4, 1) := by decide +kernel
theorem dX9_isBefore_12 : decode cX9_isBefore 12 = .ok (.iload_n 1, 1) := by decide +kernel
theorem dX9_isBefore_13 : decode cX9_isBefore 13 = .ok (.imul, 1) := by decide +kernel
theorem dX9_isBefore_14 : decode cX9_isBefore 14 = .ok (.iload_n 3, 1) := by decide +kernel
theorem dX9_isBefore_15 : decode cX9_isBefore 15 = .ok (.iadd, 1) := by decide +kernel
theorem dX9_isBefore_16 : decode cX9_isBefore 16 = .ok (.iaload, 1) := by decide +kernel
theorem dX9_isBefore_17 : decode cX9_isBefore 17 = .ok (.aload_n 0, 1) := by decide +kernel
theorem dX9_isBefore_18 : decode cX9_isBefore 18 = .ok (.getfield 65, 3) := by decide +kernel
theorem dX9_isBefore_2 : decode cX9_isBefore 2 = .ok (.iload_n 3, 1) := by decide +kernel
theorem dX9_isBefore_21 : decode cX9_isBefore 21 = .ok (.iconst 4, 1) := by decide +kernel
theorem dX9_isBefore_22 : decode cX9_isBefore 22 = .ok (.iload_n 2, 1) := by decide +kernel
theorem dX9_isBefore_23 : decode cX9_isBefore 23 = .ok (.imul, 1) := by decide +kernel
theorem dX9_isBefore_24 : decode cX9_isBefore 24 = .ok (.iload_n 3, 1) := by decide +kernel
theorem dX9_isBefore_25 : decode cX9_isBefore 25 = .ok (.iadd, 1) := by decide +kernel
theorem dX9_isBefore_26 : decode cX9_isBefore 26 = .ok (.iaload, 1) := by decide +kernel
theorem dX9_isBefore_27 : decode cX9_isBefore 27 = .ok (.if_icmp .eq 32, 3) := by decide +kernel
theorem dX9_isBefore_3 : decode cX9_isBefore 3 = .ok (.iconst 4, 1) := by decide +kernel
theorem dX9_isBefore_30 : decode cX9_isBefore 30 = .ok (.aload_n 0, 1) := by decide +kernel
theorem dX9_isBefore_31 : decode cX9_isBefore 31 = .ok (.getfield 65, 3) := by decide +kernel
theorem dX9_isBefore_34 : decode cX9_isBefore 34 = .ok (.iconst 4, 1) := by decide +kernel
theorem dX9_isBefore_35 : decode cX9_isBefore 35 = .ok (.iload_n 1, 1) := by decide +kernel
theorem dX9_isBefore_36 : decode cX9_isBefore 36 = .ok (.imul, 1) := by decide +kernel
theorem dX9_isBefore_37 : decode cX9_isBefore 37 = .ok (.iload_n 3, 1) := by decide +kernel
theorem dX9_isBefore_38 : decode cX9_isBefore 38 = .ok (.iadd, 1) := by decide +kernel
theorem dX9_isBefore_39 : decode cX9_isBefore 39 = .ok (.iaload, 1) := by decide +kernel
theorem dX9_isBefore_4 : decode cX9_isBefore 4 = .ok (.if_icmp .ge 61, 3) := by decide +kernel
theorem dX9_isBefore_40 : decode cX9_isBefore 40 = .ok (.aload_n 0, 1) := by decide +kernel
theorem dX9_isBefore_41 : decode cX9_isBefore 41 = .ok (.getfield 65, 3) := by decide +kernel
theorem dX9_isBefore_44 : decode cX9_isBefore 44 = .ok (.iconst 4, 1) := by decide +kernel
theorem dX9_isBefore_45 : decode cX9_isBefore 45 = .ok (.iload_n 2, 1) := by decide +kernel
theorem dX9_isBefore_46 : decode cX9_isBefore 46 = .ok (.imul, 1) := by decide +kernel
theorem dX9_isBefore_47 : decode cX9_isBefore 47 = .ok (.iload_n 3, 1) := by decide +kernel
theorem dX9_isBefore_48 : decode cX9_isBefore 48 = .ok (.iadd, 1) := by decide +kernel
theorem dX9_isBefore_49 : decode cX9_isBefore 49 = .ok (.iaload, 1) := by decide +kernel
theorem dX9_isBefore_50 : decode cX9_isBefore 50 = .ok (.if_icmp .ge 7, 3) := by decide +kernel
theorem dX9_isBefore_53 : decode cX9_isBefore 53 = .ok (.iconst 1, 1) := by decide +kernel
theorem dX9_isBefore_54 : decode cX9_isBefore 54 = .ok (.goto 4, 3) := by decide +kernel
theorem dX9_isBefore_57 : decode cX9_isBefore 57 = .ok (.iconst 0, 1) := by decide +kernel
theorem dX9_isBefore_58 : decode cX9_isBefore 58 = .ok (.ireturn, 1) := by decide +kernel
theorem dX9_isBefore_59 : decode cX9_isBefore 59 = .ok (.iinc 3 1, 3) := by decide +kernel
theorem dX9_isBefore_62 : decode cX9_isBefore 62 = .ok (.goto (-60), 3) := by decide +kernel
theorem dX9_isBefore_65 : decode cX9_isBefore 65 = .ok (.iconst 0, 1) := by decide +kernel
theorem dX9_isBefore_66 : decode cX9_isBefore 66 = .ok (.ireturn, 1) := by decide +kernel
theorem dX9_isBefore_7 : decode cX9_isBefore 7 = .ok (.aload_n 0, 1) := by decide +kernel
theorem dX9_isBefore_8 : decode cX9_isBefore 8 = .ok (.getfield 65, 3) := by decide +kernel
theorem dX9_leastOf_0 : decode cX9_leastOf 0 = .ok (.iconst 0, 1) := by decide +kernel
theorem dX9_leastOf_1 : decode cX9_leastOf 1 = .ok (.istore_n 2, 1) := by decide +kernel
theorem dX9_leastOf_10 : decode cX9_leastOf 10 = .ok (.aload_n 0, 1) := by decide +kernel
theorem dX9_leastOf_11 : decode cX9_leastOf 11 = .ok (.getfield 65, 3) := by decide +kernel
theorem dX9_leastOf_14 : decode cX9_leastOf 14 = .ok (.iload_n 2, 1) := by decide +kernel
theorem dX9_leastOf_15 : decode cX9_leastOf 15 = .ok (.aload_n 0, 1) := by decide +kernel
theorem dX9_leastOf_16 : decode cX9_leastOf 16 = .ok (.getfield 52, 3) := by decide +kernel
theorem dX9_leastOf_19 : decode cX9_leastOf 19 = .ok (.iload_n 1, 1) := by decide +kernel
theorem dX9_leastOf_2 : decode cX9_leastOf 2 = .ok (.iload_n 2, 1) := by decide +kernel
theorem dX9_leastOf_20 : decode cX9_leastOf 20 = .ok (.invokestatic 173, 3) := by decide +kernel
theorem dX9_leastOf_23 : decode cX9_leastOf 23 = .ok (.ifCond .eq 4, 3) := by decide +kernel
theorem dX9_leastOf_26 : decode cX9_leastOf 26 = .ok (.return_, 1) := by decide +kernel
theorem dX9_leastOf_27 : decode cX9_leastOf 27 = .ok (.iinc 2 1, 3) := by decide +kernel
theorem dX9_leastOf_3 : decode cX9_leastOf 3 = .ok (.aload_n 0, 1) := by decide +kernel
theorem dX9_leastOf_30 : decode cX9_leastOf 30 = .ok (.goto (-28), 3) := by decide +kernel
theorem dX9_leastOf_33 : decode cX9_leastOf 33 = .ok (.iconst 0, 1) := by decide +kernel
theorem dX9_leastOf_34 : decode cX9_leastOf 34 = .ok (.istore_n 2, 1) := by decide +kernel
theorem dX9_leastOf_35 : decode cX9_leastOf 35 = .ok (.iload_n 2, 1) := by decide +kernel
theorem dX9_leastOf_36 : decode cX9_leastOf 36 = .ok (.iconst 4, 1) := by decide +kernel
theorem dX9_leastOf_37 : decode cX9_leastOf 37 = .ok (.if_icmp .ge 32, 3) := by decide +kernel
theorem dX9_leastOf_4 : decode cX9_leastOf 4 = .ok (.getfield 163, 3) := by decide +kernel
theorem dX9_leastOf_40 : decode cX9_leastOf 40 = .ok (.aload_n 0, 1) := by decide +kernel
theorem dX9_leastOf_41 : decode cX9_leastOf 41 = .ok (.getfield 65, 3) := by decide +kernel
theorem dX9_leastOf_44 : decode cX9_leastOf 44 = .ok (.iconst 4, 1) := by decide +kernel
theorem dX9_leastOf_45 : decode cX9_leastOf 45 = .ok (.aload_n 0, 1) := by decide +kernel
theorem dX9_leastOf_46 : decode cX9_leastOf 46 = .ok (.getfield 163, 3) := by decide +kernel
theorem dX9_leastOf_49 : decode cX9_leastOf 49 = .ok (.imul, 1) := by decide +kernel
theorem dX9_leastOf_50 : decode cX9_leastOf 50 = .ok (.iload_n 2, 1) := by decide +kernel
theorem dX9_leastOf_51 : decode cX9_leastOf 51 = .ok (.iadd, 1) := by decide +kernel
theorem dX9_leastOf_52 : decode cX9_leastOf 52 = .ok (.aload_n 0, 1) := by decide +kernel
theorem dX9_leastOf_53 : decode cX9_leastOf 53 = .ok (.getfield 52, 3) := by decide +kernel
theorem dX9_leastOf_56 : decode cX9_leastOf 56 = .ok (.iconst 4, 1) := by decide +kernel
theorem dX9_leastOf_57 : decode cX9_leastOf 57 = .ok (.iload_n 1, 1) := by decide +kernel
theorem dX9_leastOf_58 : decode cX9_leastOf 58 = .ok (.imul, 1) := by decide +kernel
theorem dX9_leastOf_59 : decode cX9_leastOf 59 = .ok (.iload_n 2, 1) := by decide +kernel
theorem dX9_leastOf_60 : decode cX9_leastOf 60 = .ok (.iadd, 1) := by decide +kernel
theorem dX9_leastOf_61 : decode cX9_leastOf 61 = .ok (.iaload, 1) := by decide +kernel
theorem dX9_leastOf_62 : decode cX9_leastOf 62 = .ok (.iastore, 1) := by decide +kernel
theorem dX9_leastOf_63 : decode cX9_leastOf 63 = .ok (.iinc 2 1, 3) := by decide +kernel
theorem dX9_leastOf_66 : decode cX9_leastOf 66 = .ok (.goto (-31), 3) := by decide +kernel
theorem dX9_leastOf_69 : decode cX9_leastOf 69 = .ok (.aload_n 0, 1) := by decide +kernel
theorem dX9_leastOf_7 : decode cX9_leastOf 7 = .ok (.if_icmp .ge 26, 3) := by decide +kernel
theorem dX9_leastOf_70 : decode cX9_leastOf 70 = .ok (.dup, 1) := by decide +kernel
theorem dX9_leastOf_71 : decode cX9_leastOf 71 = .ok (.getfield 163, 3) := by decide +kernel
theorem dX9_leastOf_74 : decode cX9_leastOf 74 = .ok (.iconst 1, 1) := by decide +kernel
theorem dX9_leastOf_75 : decode cX9_leastOf 75 = .ok (.iadd, 1) := by decide +kernel
theorem dX9_leastOf_76 : decode cX9_leastOf 76 = .ok (.putfield 163, 3) := by decide +kernel
theorem dX9_leastOf_79 : decode cX9_leastOf 79 = .ok (.return_, 1) := by decide +kernel
theorem dX9_makes_0 : decode cX9_makes 0 = .ok (.aload_n 0, 1) := by decide +kernel
theorem dX9_makes_1 : decode cX9_makes 1 = .ok (.aload_n 0, 1) := by decide +kernel
theorem dX9_makes_10 : decode cX9_makes 10 = .ok (.iaload, 1) := by decide +kernel
theorem dX9_makes_100 : decode cX9_makes 100 = .ok (.invokevirtual 124, 3) := by decide +kernel
theorem dX9_makes_103 : decode cX9_makes 103 = .ok (.aload_n 0, 1) := by decide +kernel
theorem dX9_makes_104 : decode cX9_makes 104 = .ok (.getfield 80, 3) := by decide +kernel
theorem dX9_makes_107 : decode cX9_makes 107 = .ok (.aload_n 0, 1) := by decide +kernel
theorem dX9_makes_108 : decode cX9_makes 108 = .ok (.getfield 77, 3) := by decide +kernel
theorem dX9_makes_11 : decode cX9_makes 11 = .ok (.aload_n 0, 1) := by decide +kernel
theorem dX9_makes_111 : decode cX9_makes 111 = .ok (.iload 5, 2) := by decide +kernel
theorem dX9_makes_113 : decode cX9_makes 113 = .ok (.iaload, 1) := by decide +kernel
theorem dX9_makes_114 : decode cX9_makes 114 = .ok (.iaload, 1) := by decide +kernel
theorem dX9_makes_115 : decode cX9_makes 115 = .ok (.i2l, 1) := by decide +kernel
theorem dX9_makes_116 : decode cX9_makes 116 = .ok (.lmul, 1) := by decide +kernel
theorem dX9_makes_117 : decode cX9_makes 117 = .ok (.lsub, 1) := by decide +kernel
theorem dX9_makes_118 : decode cX9_makes 118 = .ok (.lastore, 1) := by decide +kernel
theorem dX9_makes_119 : decode cX9_makes 119 = .ok (.iinc 5 1, 3) := by decide +kernel
theorem dX9_makes_12 : decode cX9_makes 12 = .ok (.getfield 74, 3) := by decide +kernel
theorem dX9_makes_122 : decode cX9_makes 122 = .ok (.goto (-54), 3) := by decide +kernel
theorem dX9_makes_125 : decode cX9_makes 125 = .ok (.iinc 4 1, 3) := by decide +kernel
theorem dX9_makes_128 : decode cX9_makes 128 = .ok (.goto (-80), 3) := by decide +kernel
theorem dX9_makes_131 : decode cX9_makes 131 = .ok (.iconst 0, 1) := by decide +kernel
theorem dX9_makes_132 : decode cX9_makes 132 = .ok (.istore 4, 2) := by decide +kernel
theorem dX9_makes_134 : decode cX9_makes 134 = .ok (.iload 4, 2) := by decide +kernel
theorem dX9_makes_136 : decode cX9_makes 136 = .ok (.aload_n 0, 1) := by decide +kernel
theorem dX9_makes_137 : decode cX9_makes 137 = .ok (.getfield 142, 3) := by decide +kernel
theorem dX9_makes_140 : decode cX9_makes 140 = .ok (.if_icmp .ge 70, 3) := by decide +kernel
theorem dX9_makes_143 : decode cX9_makes 143 = .ok (.aload_n 0, 1) := by decide +kernel
theorem dX9_makes_144 : decode cX9_makes 144 = .ok (.iload 4, 2) := by decide +kernel
theorem dX9_makes_146 : decode cX9_makes 146 = .ok (.aload_n 0, 1) := by decide +kernel
theorem dX9_makes_147 : decode cX9_makes 147 = .ok (.getfield 86, 3) := by decide +kernel
theorem dX9_makes_15 : decode cX9_makes 15 = .ok (.iconst 1, 1) := by decide +kernel
theorem dX9_makes_150 : decode cX9_makes 150 = .ok (.invokevirtual 145, 3) := by decide +kernel
theorem dX9_makes_153 : decode cX9_makes 153 = .ok (.lstore 5, 2) := by decide +kernel
theorem dX9_makes_155 : decode cX9_makes 155 = .ok (.lload 5, 2) := by decide +kernel
theorem dX9_makes_157 : decode cX9_makes 157 = .ok (.lload_n 2, 1) := by decide +kernel
theorem dX9_makes_158 : decode cX9_makes 158 = .ok (.lrem, 1) := by decide +kernel
theorem dX9_makes_159 : decode cX9_makes 159 = .ok (.lconst 0, 1) := by decide +kernel
theorem dX9_makes_16 : decode cX9_makes 16 = .ok (.iaload, 1) := by decide +kernel
theorem dX9_makes_160 : decode cX9_makes 160 = .ok (.lcmp, 1) := by decide +kernel
theorem dX9_makes_161 : decode cX9_makes 161 = .ok (.ifCond .ne 24, 3) := by decide +kernel
theorem dX9_makes_164 : decode cX9_makes 164 = .ok (.lload 5, 2) := by decide +kernel
theorem dX9_makes_166 : decode cX9_makes 166 = .ok (.lload_n 2, 1) := by decide +kernel
theorem dX9_makes_167 : decode cX9_makes 167 = .ok (.ldiv, 1) := by decide +kernel
theorem dX9_makes_168 : decode cX9_makes 168 = .ok (.iload_n 1, 1) := by decide +kernel
theorem dX9_makes_169 : decode cX9_makes 169 = .ok (.i2l, 1) := by decide +kernel
theorem dX9_makes_17 : decode cX9_makes 17 = .ok (.aload_n 0, 1) := by decide +kernel
theorem dX9_makes_170 : decode cX9_makes 170 = .ok (.lcmp, 1) := by decide +kernel
theorem dX9_makes_171 : decode cX9_makes 171 = .ok (.ifCond .gt 14, 3) := by decide +kernel
theorem dX9_makes_174 : decode cX9_makes 174 = .ok (.lload 5, 2) := by decide +kernel
theorem dX9_makes_176 : decode cX9_makes 176 = .ok (.lload_n 2, 1) := by decide +kernel
theorem dX9_makes_177 : decode cX9_makes 177 = .ok (.ldiv, 1) := by decide +kernel
theorem dX9_makes_178 : decode cX9_makes 178 = .ok (.iload_n 1, 1) := by decide +kernel
theorem dX9_makes_179 : decode cX9_makes 179 = .ok (.ineg, 1) := by decide +kernel
theorem dX9_makes_18 : decode cX9_makes 18 = .ok (.getfield 74, 3) := by decide +kernel
theorem dX9_makes_180 : decode cX9_makes 180 = .ok (.i2l, 1) := by decide +kernel
theorem dX9_makes_181 : decode cX9_makes 181 = .ok (.lcmp, 1) := by decide +kernel
theorem dX9_makes_182 : decode cX9_makes 182 = .ok (.ifCond .ge 5, 3) := by decide +kernel
theorem dX9_makes_185 : decode cX9_makes 185 = .ok (.iconst 0, 1) := by decide +kernel
theorem dX9_makes_186 : decode cX9_makes 186 = .ok (.ireturn, 1) := by decide +kernel
theorem dX9_makes_187 : decode cX9_makes 187 = .ok (.aload_n 0, 1) := by decide +kernel
theorem dX9_makes_188 : decode cX9_makes 188 = .ok (.getfield 80, 3) := by decide +kernel
theorem dX9_makes_191 : decode cX9_makes 191 = .ok (.aload_n 0, 1) := by decide +kernel
theorem dX9_makes_192 : decode cX9_makes 192 = .ok (.getfield 71, 3) := by decide +kernel
theorem dX9_makes_195 : decode cX9_makes 195 = .ok (.iload 4, 2) := by decide +kernel
theorem dX9_makes_197 : decode cX9_makes 197 = .ok (.iaload, 1) := by decide +kernel
theorem dX9_makes_198 : decode cX9_makes 198 = .ok (.lload 5, 2) := by decide +kernel
theorem dX9_makes_2 : decode cX9_makes 2 = .ok (.getfield 142, 3) := by decide +kernel
theorem dX9_makes_200 : decode cX9_makes 200 = .ok (.lload_n 2, 1) := by decide +kernel
theorem dX9_makes_201 : decode cX9_makes 201 = .ok (.ldiv, 1) := by decide +kernel
theorem dX9_makes_202 : decode cX9_makes 202 = .ok (.l2i, 1) := by decide +kernel
theorem dX9_makes_203 : decode cX9_makes 203 = .ok (.iastore, 1) := by decide +kernel
theorem dX9_makes_204 : decode cX9_makes 204 = .ok (.iinc 4 1, 3) := by decide +kernel
theorem dX9_makes_207 : decode cX9_makes 207 = .ok (.goto (-73), 3) := by decide +kernel
theorem dX9_makes_21 : decode cX9_makes 21 = .ok (.iconst 2, 1) := by decide +kernel
theorem dX9_makes_210 : decode cX9_makes 210 = .ok (.iconst 0, 1) := by decide +kernel
theorem dX9_makes_211 : decode cX9_makes 211 = .ok (.istore 4, 2) := by decide +kernel
theorem dX9_makes_213 : decode cX9_makes 213 = .ok (.iconst 0, 1) := by decide +kernel
theorem dX9_makes_214 : decode cX9_makes 214 = .ok (.istore 5, 2) := by decide +kernel
theorem dX9_makes_216 : decode cX9_makes 216 = .ok (.iload 5, 2) := by decide +kernel
theorem dX9_makes_218 : decode cX9_makes 218 = .ok (.aload_n 0, 1) := by decide +kernel
theorem dX9_makes_219 : decode cX9_makes 219 = .ok (.getfield 47, 3) := by decide +kernel
theorem dX9_makes_22 : decode cX9_makes 22 = .ok (.iaload, 1) := by decide +kernel
theorem dX9_makes_222 : decode cX9_makes 222 = .ok (.if_icmp .ge 31, 3) := by decide +kernel
theorem dX9_makes_225 : decode cX9_makes 225 = .ok (.iload 4, 2) := by decide +kernel
theorem dX9_makes_227 : decode cX9_makes 227 = .ok (.ifCond .ne 13, 3) := by decide +kernel
theorem dX9_makes_23 : decode cX9_makes 23 = .ok (.aload_n 0, 1) := by decide +kernel
theorem dX9_makes_230 : decode cX9_makes 230 = .ok (.aload_n 0, 1) := by decide +kernel
theorem dX9_makes_231 : decode cX9_makes 231 = .ok (.getfield 80, 3) := by decide +kernel
theorem dX9_makes_234 : decode cX9_makes 234 = .ok (.iload 5, 2) := by decide +kernel
theorem dX9_makes_236 : decode cX9_makes 236 = .ok (.iaload, 1) := by decide +kernel
theorem dX9_makes_237 : decode cX9_makes 237 = .ok (.ifCond .eq 7, 3) := by decide +kernel
theorem dX9_makes_24 : decode cX9_makes 24 = .ok (.getfield 71, 3) := by decide +kernel
theorem dX9_makes_240 : decode cX9_makes 240 = .ok (.iconst 1, 1) := by decide +kernel
theorem dX9_makes_241 : decode cX9_makes 241 = .ok (.goto 4, 3) := by decide +kernel
theorem dX9_makes_244 : decode cX9_makes 244 = .ok (.iconst 0, 1) := by decide +kernel
theorem dX9_makes_245 : decode cX9_makes 245 = .ok (.istore 4, 2) := by decide +kernel
theorem dX9_makes_247 : decode cX9_makes 247 = .ok (.iinc 5 1, 3) := by decide +kernel
theorem dX9_makes_250 : decode cX9_makes 250 = .ok (.goto (-34), 3) := by decide +kernel
theorem dX9_makes_253 : decode cX9_makes 253 = .ok (.iload 4, 2) := by decide +kernel
theorem dX9_makes_255 : decode cX9_makes 255 = .ok (.ireturn, 1) := by decide +kernel
theorem dX9_makes_27 : decode cX9_makes 27 = .ok (.iconst 0, 1) := by decide +kernel
theorem dX9_makes_28 : decode cX9_makes 28 = .ok (.iaload, 1) := by decide +kernel
theorem dX9_makes_29 : decode cX9_makes 29 = .ok (.aload_n 0, 1) := by decide +kernel
theorem dX9_makes_30 : decode cX9_makes 30 = .ok (.getfield 71, 3) := by decide +kernel
theorem dX9_makes_33 : decode cX9_makes 33 = .ok (.iconst 1, 1) := by decide +kernel
theorem dX9_makes_34 : decode cX9_makes 34 = .ok (.iaload, 1) := by decide +kernel
theorem dX9_makes_35 : decode cX9_makes 35 = .ok (.aload_n 0, 1) := by decide +kernel
theorem dX9_makes_36 : decode cX9_makes 36 = .ok (.getfield 71, 3) := by decide +kernel
theorem dX9_makes_39 : decode cX9_makes 39 = .ok (.iconst 2, 1) := by decide +kernel
theorem dX9_makes_40 : decode cX9_makes 40 = .ok (.iaload, 1) := by decide +kernel
theorem dX9_makes_41 : decode cX9_makes 41 = .ok (.invokevirtual 135, 3) := by decide +kernel
theorem dX9_makes_44 : decode cX9_makes 44 = .ok (.lstore_n 2, 1) := by decide +kernel
theorem dX9_makes_45 : decode cX9_makes 45 = .ok (.iconst 0, 1) := by decide +kernel
theorem dX9_makes_46 : decode cX9_makes 46 = .ok (.istore 4, 2) := by decide +kernel
theorem dX9_makes_48 : decode cX9_makes 48 = .ok (.iload 4, 2) := by decide +kernel
theorem dX9_makes_5 : decode cX9_makes 5 = .ok (.aload_n 0, 1) := by decide +kernel
theorem dX9_makes_50 : decode cX9_makes 50 = .ok (.aload_n 0, 1) := by decide +kernel
theorem dX9_makes_51 : decode cX9_makes 51 = .ok (.getfield 142, 3) := by decide +kernel
theorem dX9_makes_54 : decode cX9_makes 54 = .ok (.if_icmp .ge 77, 3) := by decide +kernel
theorem dX9_makes_57 : decode cX9_makes 57 = .ok (.aload_n 0, 1) := by decide +kernel
theorem dX9_makes_58 : decode cX9_makes 58 = .ok (.getfield 86, 3) := by decide +kernel
theorem dX9_makes_6 : decode cX9_makes 6 = .ok (.getfield 74, 3) := by decide +kernel
theorem dX9_makes_61 : decode cX9_makes 61 = .ok (.iload 4, 2) := by decide +kernel
theorem dX9_makes_63 : decode cX9_makes 63 = .ok (.lconst 0, 1) := by decide +kernel
theorem dX9_makes_64 : decode cX9_makes 64 = .ok (.lastore, 1) := by decide +kernel
theorem dX9_makes_65 : decode cX9_makes 65 = .ok (.iconst 0, 1) := by decide +kernel
theorem dX9_makes_66 : decode cX9_makes 66 = .ok (.istore 5, 2) := by decide +kernel
theorem dX9_makes_68 : decode cX9_makes 68 = .ok (.iload 5, 2) := by decide +kernel
theorem dX9_makes_70 : decode cX9_makes 70 = .ok (.aload_n 0, 1) := by decide +kernel
theorem dX9_makes_71 : decode cX9_makes 71 = .ok (.getfield 139, 3) := by decide +kernel
theorem dX9_makes_74 : decode cX9_makes 74 = .ok (.if_icmp .ge 51, 3) := by decide +kernel
theorem dX9_makes_77 : decode cX9_makes 77 = .ok (.aload_n 0, 1) := by decide +kernel
theorem dX9_makes_78 : decode cX9_makes 78 = .ok (.getfield 86, 3) := by decide +kernel
theorem dX9_makes_81 : decode cX9_makes 81 = .ok (.iload 4, 2) := by decide +kernel
theorem dX9_makes_83 : decode cX9_makes 83 = .ok (.dup2, 1) := by decide +kernel
theorem dX9_makes_84 : decode cX9_makes 84 = .ok (.laload, 1) := by decide +kernel
theorem dX9_makes_85 : decode cX9_makes 85 = .ok (.aload_n 0, 1) := by decide +kernel
theorem dX9_makes_86 : decode cX9_makes 86 = .ok (.aload_n 0, 1) := by decide +kernel
theorem dX9_makes_87 : decode cX9_makes 87 = .ok (.getfield 74, 3) := by decide +kernel
theorem dX9_makes_9 : decode cX9_makes 9 = .ok (.iconst 0, 1) := by decide +kernel
theorem dX9_makes_90 : decode cX9_makes 90 = .ok (.iload 4, 2) := by decide +kernel
theorem dX9_makes_92 : decode cX9_makes 92 = .ok (.iaload, 1) := by decide +kernel
theorem dX9_makes_93 : decode cX9_makes 93 = .ok (.aload_n 0, 1) := by decide +kernel
theorem dX9_makes_94 : decode cX9_makes 94 = .ok (.getfield 77, 3) := by decide +kernel
theorem dX9_makes_97 : decode cX9_makes 97 = .ok (.iload 5, 2) := by decide +kernel
theorem dX9_makes_99 : decode cX9_makes 99 = .ok (.iaload, 1) := by decide +kernel
theorem dX9_minor_0 : decode cX9_minor 0 = .ok (.iload_n 1, 1) := by decide +kernel
theorem dX9_minor_1 : decode cX9_minor 1 = .ok (.ifCond .ne 5, 3) := by decide +kernel
theorem dX9_minor_101 : decode cX9_minor 101 = .ok (.invokevirtual 124, 3) := by decide +kernel
theorem dX9_minor_104 : decode cX9_minor 104 = .ok (.aload_n 0, 1) := by decide +kernel
theorem dX9_minor_105 : decode cX9_minor 105 = .ok (.iload_n 3, 1) := by decide +kernel
theorem dX9_minor_106 : decode cX9_minor 106 = .ok (.iload 5, 2) := by decide +kernel
theorem dX9_minor_108 : decode cX9_minor 108 = .ok (.invokevirtual 124, 3) := by decide +kernel
theorem dX9_minor_11 : decode cX9_minor 11 = .ok (.aload_n 0, 1) := by decide +kernel
theorem dX9_minor_111 : decode cX9_minor 111 = .ok (.aload_n 0, 1) := by decide +kernel
theorem dX9_minor_112 : decode cX9_minor 112 = .ok (.iload 4, 2) := by decide +kernel
theorem dX9_minor_114 : decode cX9_minor 114 = .ok (.iload 7, 2) := by decide +kernel
theorem dX9_minor_116 : decode cX9_minor 116 = .ok (.invokevirtual 124, 3) := by decide +kernel
theorem dX9_minor_119 : decode cX9_minor 119 = .ok (.lmul, 1) := by decide +kernel
theorem dX9_minor_12 : decode cX9_minor 12 = .ok (.iload_n 2, 1) := by decide +kernel
theorem dX9_minor_120 : decode cX9_minor 120 = .ok (.aload_n 0, 1) := by decide +kernel
theorem dX9_minor_121 : decode cX9_minor 121 = .ok (.iload_n 3, 1) := by decide +kernel
theorem dX9_minor_122 : decode cX9_minor 122 = .ok (.iload 7, 2) := by decide +kernel
theorem dX9_minor_124 : decode cX9_minor 124 = .ok (.invokevirtual 124, 3) := by decide +kernel
theorem dX9_minor_127 : decode cX9_minor 127 = .ok (.aload_n 0, 1) := by decide +kernel
theorem dX9_minor_128 : decode cX9_minor 128 = .ok (.iload 4, 2) := by decide +kernel
theorem dX9_minor_13 : decode cX9_minor 13 = .ok (.iload 5, 2) := by decide +kernel
theorem dX9_minor_130 : decode cX9_minor 130 = .ok (.iload 5, 2) := by decide +kernel
theorem dX9_minor_132 : decode cX9_minor 132 = .ok (.invokevirtual 124, 3) := by decide +kernel
theorem dX9_minor_135 : decode cX9_minor 135 = .ok (.lmul, 1) := by decide +kernel
theorem dX9_minor_136 : decode cX9_minor 136 = .ok (.lsub, 1) := by decide +kernel
theorem dX9_minor_137 : decode cX9_minor 137 = .ok (.lmul, 1) := by decide +kernel
theorem dX9_minor_138 : decode cX9_minor 138 = .ok (.lsub, 1) := by decide +kernel
theorem dX9_minor_139 : decode cX9_minor 139 = .ok (.aload_n 0, 1) := by decide +kernel
theorem dX9_minor_140 : decode cX9_minor 140 = .ok (.iload_n 2, 1) := by decide +kernel
theorem dX9_minor_141 : decode cX9_minor 141 = .ok (.iload 7, 2) := by decide +kernel
theorem dX9_minor_143 : decode cX9_minor 143 = .ok (.invokevirtual 124, 3) := by decide +kernel
theorem dX9_minor_146 : decode cX9_minor 146 = .ok (.aload_n 0, 1) := by decide +kernel
theorem dX9_minor_147 : decode cX9_minor 147 = .ok (.iload_n 3, 1) := by decide +kernel
theorem dX9_minor_148 : decode cX9_minor 148 = .ok (.iload 5, 2) := by decide +kernel
theorem dX9_minor_15 : decode cX9_minor 15 = .ok (.invokevirtual 124, 3) := by decide +kernel
theorem dX9_minor_150 : decode cX9_minor 150 = .ok (.invokevirtual 124, 3) := by decide +kernel
theorem dX9_minor_153 : decode cX9_minor 153 = .ok (.aload_n 0, 1) := by decide +kernel
theorem dX9_minor_154 : decode cX9_minor 154 = .ok (.iload 4, 2) := by decide +kernel
theorem dX9_minor_156 : decode cX9_minor 156 = .ok (.iload 6, 2) := by decide +kernel
theorem dX9_minor_158 : decode cX9_minor 158 = .ok (.invokevirtual 124, 3) := by decide +kernel
theorem dX9_minor_161 : decode cX9_minor 161 = .ok (.lmul, 1) := by decide +kernel
theorem dX9_minor_162 : decode cX9_minor 162 = .ok (.aload_n 0, 1) := by decide +kernel
theorem dX9_minor_163 : decode cX9_minor 163 = .ok (.iload_n 3, 1) := by decide +kernel
theorem dX9_minor_164 : decode cX9_minor 164 = .ok (.iload 6, 2) := by decide +kernel
theorem dX9_minor_166 : decode cX9_minor 166 = .ok (.invokevirtual 124, 3) := by decide +kernel
theorem dX9_minor_169 : decode cX9_minor 169 = .ok (.aload_n 0, 1) := by decide +kernel
theorem dX9_minor_170 : decode cX9_minor 170 = .ok (.iload 4, 2) := by decide +kernel
theorem dX9_minor_172 : decode cX9_minor 172 = .ok (.iload 5, 2) := by decide +kernel
theorem dX9_minor_174 : decode cX9_minor 174 = .ok (.invokevirtual 124, 3) := by decide +kernel
theorem dX9_minor_177 : decode cX9_minor 177 = .ok (.lmul, 1) := by decide +kernel
theorem dX9_minor_178 : decode cX9_minor 178 = .ok (.lsub, 1) := by decide +kernel
theorem dX9_minor_179 : decode cX9_minor 179 = .ok (.lmul, 1) := by decide +kernel
theorem dX9_minor_18 : decode cX9_minor 18 = .ok (.lreturn, 1) := by decide +kernel
theorem dX9_minor_180 : decode cX9_minor 180 = .ok (.ladd, 1) := by decide +kernel
theorem dX9_minor_181 : decode cX9_minor 181 = .ok (.lreturn, 1) := by decide +kernel
theorem dX9_minor_19 : decode cX9_minor 19 = .ok (.iload_n 1, 1) := by decide +kernel
theorem dX9_minor_20 : decode cX9_minor 20 = .ok (.iconst 2, 1) := by decide +kernel
theorem dX9_minor_21 : decode cX9_minor 21 = .ok (.if_icmp .ne 35, 3) := by decide +kernel
theorem dX9_minor_24 : decode cX9_minor 24 = .ok (.aload_n 0, 1) := by decide +kernel
theorem dX9_minor_25 : decode cX9_minor 25 = .ok (.iload_n 2, 1) := by decide +kernel
theorem dX9_minor_26 : decode cX9_minor 26 = .ok (.iload 5, 2) := by decide +kernel
theorem dX9_minor_28 : decode cX9_minor 28 = .ok (.invokevirtual 124, 3) := by decide +kernel
theorem dX9_minor_31 : decode cX9_minor 31 = .ok (.aload_n 0, 1) := by decide +kernel
theorem dX9_minor_32 : decode cX9_minor 32 = .ok (.iload_n 3, 1) := by decide +kernel
theorem dX9_minor_33 : decode cX9_minor 33 = .ok (.iload 6, 2) := by decide +kernel
theorem dX9_minor_35 : decode cX9_minor 35 = .ok (.invokevirtual 124, 3) := by decide +kernel
theorem dX9_minor_38 : decode cX9_minor 38 = .ok (.lmul, 1) := by decide +kernel
theorem dX9_minor_39 : decode cX9_minor 39 = .ok (.aload_n 0, 1) := by decide +kernel
theorem dX9_minor_4 : decode cX9_minor 4 = .ok (.lconst 1, 1) := by decide +kernel
theorem dX9_minor_40 : decode cX9_minor 40 = .ok (.iload_n 2, 1) := by decide +kernel
theorem dX9_minor_41 : decode cX9_minor 41 = .ok (.iload 6, 2) := by decide +kernel
theorem dX9_minor_43 : decode cX9_minor 43 = .ok (.invokevirtual 124, 3) := by decide +kernel
theorem dX9_minor_46 : decode cX9_minor 46 = .ok (.aload_n 0, 1) := by decide +kernel
theorem dX9_minor_47 : decode cX9_minor 47 = .ok (.iload_n 3, 1) := by decide +kernel
theorem dX9_minor_48 : decode cX9_minor 48 = .ok (.iload 5, 2) := by decide +kernel
theorem dX9_minor_5 : decode cX9_minor 5 = .ok (.lreturn, 1) := by decide +kernel
theorem dX9_minor_50 : decode cX9_minor 50 = .ok (.invokevirtual 124, 3) := by decide +kernel
theorem dX9_minor_53 : decode cX9_minor 53 = .ok (.lmul, 1) := by decide +kernel
theorem dX9_minor_54 : decode cX9_minor 54 = .ok (.lsub, 1) := by decide +kernel
theorem dX9_minor_55 : decode cX9_minor 55 = .ok (.lreturn, 1) := by decide +kernel
theorem dX9_minor_56 : decode cX9_minor 56 = .ok (.aload_n 0, 1) := by decide +kernel
theorem dX9_minor_57 : decode cX9_minor 57 = .ok (.iload_n 2, 1) := by decide +kernel
theorem dX9_minor_58 : decode cX9_minor 58 = .ok (.iload 5, 2) := by decide +kernel
theorem dX9_minor_6 : decode cX9_minor 6 = .ok (.iload_n 1, 1) := by decide +kernel
theorem dX9_minor_60 : decode cX9_minor 60 = .ok (.invokevirtual 124, 3) := by decide +kernel
theorem dX9_minor_63 : decode cX9_minor 63 = .ok (.aload_n 0, 1) := by decide +kernel
theorem dX9_minor_64 : decode cX9_minor 64 = .ok (.iload_n 3, 1) := by decide +kernel
theorem dX9_minor_65 : decode cX9_minor 65 = .ok (.iload 6, 2) := by decide +kernel
theorem dX9_minor_67 : decode cX9_minor 67 = .ok (.invokevirtual 124, 3) := by decide +kernel
theorem dX9_minor_7 : decode cX9_minor 7 = .ok (.iconst 1, 1) := by decide +kernel
theorem dX9_minor_70 : decode cX9_minor 70 = .ok (.aload_n 0, 1) := by decide +kernel
theorem dX9_minor_71 : decode cX9_minor 71 = .ok (.iload 4, 2) := by decide +kernel
theorem dX9_minor_73 : decode cX9_minor 73 = .ok (.iload 7, 2) := by decide +kernel
theorem dX9_minor_75 : decode cX9_minor 75 = .ok (.invokevirtual 124, 3) := by decide +kernel
theorem dX9_minor_78 : decode cX9_minor 78 = .ok (.lmul, 1) := by decide +kernel
theorem dX9_minor_79 : decode cX9_minor 79 = .ok (.aload_n 0, 1) := by decide +kernel
theorem dX9_minor_8 : decode cX9_minor 8 = .ok (.if_icmp .ne 11, 3) := by decide +kernel
theorem dX9_minor_80 : decode cX9_minor 80 = .ok (.iload_n 3, 1) := by decide +kernel
theorem dX9_minor_81 : decode cX9_minor 81 = .ok (.iload 7, 2) := by decide +kernel
theorem dX9_minor_83 : decode cX9_minor 83 = .ok (.invokevirtual 124, 3) := by decide +kernel
theorem dX9_minor_86 : decode cX9_minor 86 = .ok (.aload_n 0, 1) := by decide +kernel
theorem dX9_minor_87 : decode cX9_minor 87 = .ok (.iload 4, 2) := by decide +kernel
theorem dX9_minor_89 : decode cX9_minor 89 = .ok (.iload 6, 2) := by decide +kernel
theorem dX9_minor_91 : decode cX9_minor 91 = .ok (.invokevirtual 124, 3) := by decide +kernel
theorem dX9_minor_94 : decode cX9_minor 94 = .ok (.lmul, 1) := by decide +kernel
theorem dX9_minor_95 : decode cX9_minor 95 = .ok (.lsub, 1) := by decide +kernel
theorem dX9_minor_96 : decode cX9_minor 96 = .ok (.lmul, 1) := by decide +kernel
theorem dX9_minor_97 : decode cX9_minor 97 = .ok (.aload_n 0, 1) := by decide +kernel
theorem dX9_minor_98 : decode cX9_minor 98 = .ok (.iload_n 2, 1) := by decide +kernel
theorem dX9_minor_99 : decode cX9_minor 99 = .ok (.iload 6, 2) := by decide +kernel
theorem dX9_putIn_0 : decode cX9_putIn 0 = .ok (.aload_n 0, 1) := by decide +kernel
theorem dX9_putIn_1 : decode cX9_putIn 1 = .ok (.getfield 83, 3) := by decide +kernel
theorem dX9_putIn_10 : decode cX9_putIn 10 = .ok (.aload_n 0, 1) := by decide +kernel
theorem dX9_putIn_101 : decode cX9_putIn 101 = .ok (.aload_n 3, 1) := by decide +kernel
theorem dX9_putIn_102 : decode cX9_putIn 102 = .ok (.iconst 0, 1) := by decide +kernel
theorem dX9_putIn_103 : decode cX9_putIn 103 = .ok (.laload, 1) := by decide +kernel
theorem dX9_putIn_104 : decode cX9_putIn 104 = .ok (.aload_n 3, 1) := by decide +kernel
theorem dX9_putIn_105 : decode cX9_putIn 105 = .ok (.iconst 4, 1) := by decide +kernel
theorem dX9_putIn_106 : decode cX9_putIn 106 = .ok (.laload, 1) := by decide +kernel
theorem dX9_putIn_107 : decode cX9_putIn 107 = .ok (.lmul, 1) := by decide +kernel
theorem dX9_putIn_108 : decode cX9_putIn 108 = .ok (.aload_n 3, 1) := by decide +kernel
theorem dX9_putIn_109 : decode cX9_putIn 109 = .ok (.iconst 1, 1) := by decide +kernel
theorem dX9_putIn_11 : decode cX9_putIn 11 = .ok (.getfield 142, 3) := by decide +kernel
theorem dX9_putIn_110 : decode cX9_putIn 110 = .ok (.laload, 1) := by decide +kernel
theorem dX9_putIn_111 : decode cX9_putIn 111 = .ok (.aload_n 3, 1) := by decide +kernel
theorem dX9_putIn_112 : decode cX9_putIn 112 = .ok (.iconst 3, 1) := by decide +kernel
theorem dX9_putIn_113 : decode cX9_putIn 113 = .ok (.laload, 1) := by decide +kernel
theorem dX9_putIn_114 : decode cX9_putIn 114 = .ok (.lmul, 1) := by decide +kernel
theorem dX9_putIn_115 : decode cX9_putIn 115 = .ok (.lsub, 1) := by decide +kernel
theorem dX9_putIn_116 : decode cX9_putIn 116 = .ok (.lreturn, 1) := by decide +kernel
theorem dX9_putIn_117 : decode cX9_putIn 117 = .ok (.aload_n 3, 1) := by decide +kernel
theorem dX9_putIn_118 : decode cX9_putIn 118 = .ok (.iconst 0, 1) := by decide +kernel
theorem dX9_putIn_119 : decode cX9_putIn 119 = .ok (.laload, 1) := by decide +kernel
theorem dX9_putIn_120 : decode cX9_putIn 120 = .ok (.aload_n 3, 1) := by decide +kernel
theorem dX9_putIn_121 : decode cX9_putIn 121 = .ok (.iconst 4, 1) := by decide +kernel
theorem dX9_putIn_122 : decode cX9_putIn 122 = .ok (.laload, 1) := by decide +kernel
theorem dX9_putIn_123 : decode cX9_putIn 123 = .ok (.aload_n 3, 1) := by decide +kernel
theorem dX9_putIn_124 : decode cX9_putIn 124 = .ok (.bipush 8, 2) := by decide +kernel
theorem dX9_putIn_126 : decode cX9_putIn 126 = .ok (.laload, 1) := by decide +kernel
theorem dX9_putIn_127 : decode cX9_putIn 127 = .ok (.lmul, 1) := by decide +kernel
theorem dX9_putIn_128 : decode cX9_putIn 128 = .ok (.aload_n 3, 1) := by decide +kernel
theorem dX9_putIn_129 : decode cX9_putIn 129 = .ok (.iconst 5, 1) := by decide +kernel
theorem dX9_putIn_130 : decode cX9_putIn 130 = .ok (.laload, 1) := by decide +kernel
theorem dX9_putIn_131 : decode cX9_putIn 131 = .ok (.aload_n 3, 1) := by decide +kernel
theorem dX9_putIn_132 : decode cX9_putIn 132 = .ok (.bipush 7, 2) := by decide +kernel
theorem dX9_putIn_134 : decode cX9_putIn 134 = .ok (.laload, 1) := by decide +kernel
theorem dX9_putIn_135 : decode cX9_putIn 135 = .ok (.lmul, 1) := by decide +kernel
theorem dX9_putIn_136 : decode cX9_putIn 136 = .ok (.lsub, 1) := by decide +kernel
theorem dX9_putIn_137 : decode cX9_putIn 137 = .ok (.lmul, 1) := by decide +kernel
theorem dX9_putIn_138 : decode cX9_putIn 138 = .ok (.aload_n 3, 1) := by decide +kernel
theorem dX9_putIn_139 : decode cX9_putIn 139 = .ok (.iconst 1, 1) := by decide +kernel
theorem dX9_putIn_14 : decode cX9_putIn 14 = .ok (.if_icmp .ge 67, 3) := by decide +kernel
theorem dX9_putIn_140 : decode cX9_putIn 140 = .ok (.laload, 1) := by decide +kernel
theorem dX9_putIn_141 : decode cX9_putIn 141 = .ok (.aload_n 3, 1) := by decide +kernel
theorem dX9_putIn_142 : decode cX9_putIn 142 = .ok (.iconst 3, 1) := by decide +kernel
theorem dX9_putIn_143 : decode cX9_putIn 143 = .ok (.laload, 1) := by decide +kernel
theorem dX9_putIn_144 : decode cX9_putIn 144 = .ok (.aload_n 3, 1) := by decide +kernel
theorem dX9_putIn_145 : decode cX9_putIn 145 = .ok (.bipush 8, 2) := by decide +kernel
theorem dX9_putIn_147 : decode cX9_putIn 147 = .ok (.laload, 1) := by decide +kernel
theorem dX9_putIn_148 : decode cX9_putIn 148 = .ok (.lmul, 1) := by decide +kernel
theorem dX9_putIn_149 : decode cX9_putIn 149 = .ok (.aload_n 3, 1) := by decide +kernel
theorem dX9_putIn_150 : decode cX9_putIn 150 = .ok (.iconst 5, 1) := by decide +kernel
theorem dX9_putIn_151 : decode cX9_putIn 151 = .ok (.laload, 1) := by decide +kernel
theorem dX9_putIn_152 : decode cX9_putIn 152 = .ok (.aload_n 3, 1) := by decide +kernel
theorem dX9_putIn_153 : decode cX9_putIn 153 = .ok (.bipush 6, 2) := by decide +kernel
theorem dX9_putIn_155 : decode cX9_putIn 155 = .ok (.laload, 1) := by decide +kernel
theorem dX9_putIn_156 : decode cX9_putIn 156 = .ok (.lmul, 1) := by decide +kernel
theorem dX9_putIn_157 : decode cX9_putIn 157 = .ok (.lsub, 1) := by decide +kernel
theorem dX9_putIn_158 : decode cX9_putIn 158 = .ok (.lmul, 1) := by decide +kernel
theorem dX9_putIn_159 : decode cX9_putIn 159 = .ok (.lsub, 1) := by decide +kernel
theorem dX9_putIn_160 : decode cX9_putIn 160 = .ok (.aload_n 3, 1) := by decide +kernel
theorem dX9_putIn_161 : decode cX9_putIn 161 = .ok (.iconst 2, 1) := by decide +kernel
theorem dX9_putIn_162 : decode cX9_putIn 162 = .ok (.laload, 1) := by decide +kernel
theorem dX9_putIn_163 : decode cX9_putIn 163 = .ok (.aload_n 3, 1) := by decide +kernel
theorem dX9_putIn_164 : decode cX9_putIn 164 = .ok (.iconst 3, 1) := by decide +kernel
theorem dX9_putIn_165 : decode cX9_putIn 165 = .ok (.laload, 1) := by decide +kernel
theorem dX9_putIn_166 : decode cX9_putIn 166 = .ok (.aload_n 3, 1) := by decide +kernel
theorem dX9_putIn_167 : decode cX9_putIn 167 = .ok (.bipush 7, 2) := by decide +kernel
theorem dX9_putIn_169 : decode cX9_putIn 169 = .ok (.laload, 1) := by decide +kernel
theorem dX9_putIn_17 : decode cX9_putIn 17 = .ok (.iconst 0, 1) := by decide +kernel
theorem dX9_putIn_170 : decode cX9_putIn 170 = .ok (.lmul, 1) := by decide +kernel
theorem dX9_putIn_171 : decode cX9_putIn 171 = .ok (.aload_n 3, 1) := by decide +kernel
theorem dX9_putIn_172 : decode cX9_putIn 172 = .ok (.iconst 4, 1) := by decide +kernel
theorem dX9_putIn_173 : decode cX9_putIn 173 = .ok (.laload, 1) := by decide +kernel
theorem dX9_putIn_174 : decode cX9_putIn 174 = .ok (.aload_n 3, 1) := by decide +kernel
theorem dX9_putIn_175 : decode cX9_putIn 175 = .ok (.bipush 6, 2) := by decide +kernel
theorem dX9_putIn_177 : decode cX9_putIn 177 = .ok (.laload, 1) := by decide +kernel
theorem dX9_putIn_178 : decode cX9_putIn 178 = .ok (.lmul, 1) := by decide +kernel
theorem dX9_putIn_179 : decode cX9_putIn 179 = .ok (.lsub, 1) := by decide +kernel
theorem dX9_putIn_18 : decode cX9_putIn 18 = .ok (.istore 5, 2) := by decide +kernel
theorem dX9_putIn_180 : decode cX9_putIn 180 = .ok (.lmul, 1) := by decide +kernel
theorem dX9_putIn_181 : decode cX9_putIn 181 = .ok (.ladd, 1) := by decide +kernel
theorem dX9_putIn_182 : decode cX9_putIn 182 = .ok (.lreturn, 1) := by decide +kernel
theorem dX9_putIn_20 : decode cX9_putIn 20 = .ok (.iload 5, 2) := by decide +kernel
theorem dX9_putIn_22 : decode cX9_putIn 22 = .ok (.aload_n 0, 1) := by decide +kernel
theorem dX9_putIn_23 : decode cX9_putIn 23 = .ok (.getfield 142, 3) := by decide +kernel
theorem dX9_putIn_26 : decode cX9_putIn 26 = .ok (.if_icmp .ge 49, 3) := by decide +kernel
theorem dX9_putIn_29 : decode cX9_putIn 29 = .ok (.aload_n 3, 1) := by decide +kernel
theorem dX9_putIn_30 : decode cX9_putIn 30 = .ok (.iconst 3, 1) := by decide +kernel
theorem dX9_putIn_31 : decode cX9_putIn 31 = .ok (.iload 4, 2) := by decide +kernel
theorem dX9_putIn_33 : decode cX9_putIn 33 = .ok (.imul, 1) := by decide +kernel
theorem dX9_putIn_34 : decode cX9_putIn 34 = .ok (.iload 5, 2) := by decide +kernel
theorem dX9_putIn_36 : decode cX9_putIn 36 = .ok (.iadd, 1) := by decide +kernel
theorem dX9_putIn_37 : decode cX9_putIn 37 = .ok (.iload 5, 2) := by decide +kernel
theorem dX9_putIn_39 : decode cX9_putIn 39 = .ok (.iload_n 1, 1) := by decide +kernel
theorem dX9_putIn_4 : decode cX9_putIn 4 = .ok (.astore_n 3, 1) := by decide +kernel
theorem dX9_putIn_40 : decode cX9_putIn 40 = .ok (.if_icmp .ne 10, 3) := by decide +kernel
theorem dX9_putIn_43 : decode cX9_putIn 43 = .ok (.aload_n 2, 1) := by decide +kernel
theorem dX9_putIn_44 : decode cX9_putIn 44 = .ok (.iload 4, 2) := by decide +kernel
theorem dX9_putIn_46 : decode cX9_putIn 46 = .ok (.laload, 1) := by decide +kernel
theorem dX9_putIn_47 : decode cX9_putIn 47 = .ok (.goto 21, 3) := by decide +kernel
theorem dX9_putIn_5 : decode cX9_putIn 5 = .ok (.iconst 0, 1) := by decide +kernel
theorem dX9_putIn_50 : decode cX9_putIn 50 = .ok (.aload_n 0, 1) := by decide +kernel
theorem dX9_putIn_51 : decode cX9_putIn 51 = .ok (.aload_n 0, 1) := by decide +kernel
theorem dX9_putIn_52 : decode cX9_putIn 52 = .ok (.getfield 74, 3) := by decide +kernel
theorem dX9_putIn_55 : decode cX9_putIn 55 = .ok (.iload 4, 2) := by decide +kernel
theorem dX9_putIn_57 : decode cX9_putIn 57 = .ok (.iaload, 1) := by decide +kernel
theorem dX9_putIn_58 : decode cX9_putIn 58 = .ok (.aload_n 0, 1) := by decide +kernel
theorem dX9_putIn_59 : decode cX9_putIn 59 = .ok (.getfield 71, 3) := by decide +kernel
theorem dX9_putIn_6 : decode cX9_putIn 6 = .ok (.istore 4, 2) := by decide +kernel
theorem dX9_putIn_62 : decode cX9_putIn 62 = .ok (.iload 5, 2) := by decide +kernel
theorem dX9_putIn_64 : decode cX9_putIn 64 = .ok (.iaload, 1) := by decide +kernel
theorem dX9_putIn_65 : decode cX9_putIn 65 = .ok (.invokevirtual 124, 3) := by decide +kernel
theorem dX9_putIn_68 : decode cX9_putIn 68 = .ok (.lastore, 1) := by decide +kernel
theorem dX9_putIn_69 : decode cX9_putIn 69 = .ok (.iinc 5 1, 3) := by decide +kernel
theorem dX9_putIn_72 : decode cX9_putIn 72 = .ok (.goto (-52), 3) := by decide +kernel
theorem dX9_putIn_75 : decode cX9_putIn 75 = .ok (.iinc 4 1, 3) := by decide +kernel
theorem dX9_putIn_78 : decode cX9_putIn 78 = .ok (.goto (-70), 3) := by decide +kernel
theorem dX9_putIn_8 : decode cX9_putIn 8 = .ok (.iload 4, 2) := by decide +kernel
theorem dX9_putIn_81 : decode cX9_putIn 81 = .ok (.aload_n 0, 1) := by decide +kernel
theorem dX9_putIn_82 : decode cX9_putIn 82 = .ok (.getfield 142, 3) := by decide +kernel
theorem dX9_putIn_85 : decode cX9_putIn 85 = .ok (.iconst 1, 1) := by decide +kernel
theorem dX9_putIn_86 : decode cX9_putIn 86 = .ok (.if_icmp .ne 7, 3) := by decide +kernel
theorem dX9_putIn_89 : decode cX9_putIn 89 = .ok (.aload_n 3, 1) := by decide +kernel
theorem dX9_putIn_90 : decode cX9_putIn 90 = .ok (.iconst 0, 1) := by decide +kernel
theorem dX9_putIn_91 : decode cX9_putIn 91 = .ok (.laload, 1) := by decide +kernel
theorem dX9_putIn_92 : decode cX9_putIn 92 = .ok (.lreturn, 1) := by decide +kernel
theorem dX9_putIn_93 : decode cX9_putIn 93 = .ok (.aload_n 0, 1) := by decide +kernel
theorem dX9_putIn_94 : decode cX9_putIn 94 = .ok (.getfield 142, 3) := by decide +kernel
theorem dX9_putIn_97 : decode cX9_putIn 97 = .ok (.iconst 2, 1) := by decide +kernel
theorem dX9_putIn_98 : decode cX9_putIn 98 = .ok (.if_icmp .ne 19, 3) := by decide +kernel
theorem dX9_ranks_0 : decode cX9_ranks 0 = .ok (.iconst 0, 1) := by decide +kernel
theorem dX9_ranks_1 : decode cX9_ranks 1 = .ok (.istore_n 2, 1) := by decide +kernel
theorem dX9_ranks_100 : decode cX9_ranks 100 = .ok (.invokevirtual 135, 3) := by decide +kernel
theorem dX9_ranks_103 : decode cX9_ranks 103 = .ok (.lconst 0, 1) := by decide +kernel
theorem dX9_ranks_104 : decode cX9_ranks 104 = .ok (.lcmp, 1) := by decide +kernel
theorem dX9_ranks_105 : decode cX9_ranks 105 = .ok (.ifCond .ne 6, 3) := by decide +kernel
theorem dX9_ranks_108 : decode cX9_ranks 108 = .ok (.goto 62, 3) := by decide +kernel
theorem dX9_ranks_111 : decode cX9_ranks 111 = .ok (.aload_n 0, 1) := by decide +kernel
theorem dX9_ranks_112 : decode cX9_ranks 112 = .ok (.iconst 0, 1) := by decide +kernel
theorem dX9_ranks_113 : decode cX9_ranks 113 = .ok (.putfield 139, 3) := by decide +kernel
theorem dX9_ranks_116 : decode cX9_ranks 116 = .ok (.iconst 0, 1) := by decide +kernel
theorem dX9_ranks_117 : decode cX9_ranks 117 = .ok (.istore 4, 2) := by decide +kernel
theorem dX9_ranks_119 : decode cX9_ranks 119 = .ok (.iload 4, 2) := by decide +kernel
theorem dX9_ranks_12 : decode cX9_ranks 12 = .ok (.iload_n 2, 1) := by decide +kernel
theorem dX9_ranks_121 : decode cX9_ranks 121 = .ok (.aload_n 0, 1) := by decide +kernel
theorem dX9_ranks_122 : decode cX9_ranks 122 = .ok (.getfield 47, 3) := by decide +kernel
theorem dX9_ranks_125 : decode cX9_ranks 125 = .ok (.if_icmp .ge 43, 3) := by decide +kernel
theorem dX9_ranks_128 : decode cX9_ranks 128 = .ok (.iload_n 3, 1) := by decide +kernel
theorem dX9_ranks_129 : decode cX9_ranks 129 = .ok (.iload 4, 2) := by decide +kernel
theorem dX9_ranks_13 : decode cX9_ranks 13 = .ok (.invokestatic 128, 3) := by decide +kernel
theorem dX9_ranks_131 : decode cX9_ranks 131 = .ok (.ishr, 1) := by decide +kernel
theorem dX9_ranks_132 : decode cX9_ranks 132 = .ok (.iconst 1, 1) := by decide +kernel
theorem dX9_ranks_133 : decode cX9_ranks 133 = .ok (.iand, 1) := by decide +kernel
theorem dX9_ranks_134 : decode cX9_ranks 134 = .ok (.iconst 1, 1) := by decide +kernel
theorem dX9_ranks_135 : decode cX9_ranks 135 = .ok (.if_icmp .ne 6, 3) := by decide +kernel
theorem dX9_ranks_138 : decode cX9_ranks 138 = .ok (.goto 24, 3) := by decide +kernel
theorem dX9_ranks_141 : decode cX9_ranks 141 = .ok (.aload_n 0, 1) := by decide +kernel
theorem dX9_ranks_142 : decode cX9_ranks 142 = .ok (.getfield 77, 3) := by decide +kernel
theorem dX9_ranks_145 : decode cX9_ranks 145 = .ok (.aload_n 0, 1) := by decide +kernel
theorem dX9_ranks_146 : decode cX9_ranks 146 = .ok (.getfield 139, 3) := by decide +kernel
theorem dX9_ranks_149 : decode cX9_ranks 149 = .ok (.iload 4, 2) := by decide +kernel
theorem dX9_ranks_151 : decode cX9_ranks 151 = .ok (.iastore, 1) := by decide +kernel
theorem dX9_ranks_152 : decode cX9_ranks 152 = .ok (.aload_n 0, 1) := by decide +kernel
theorem dX9_ranks_153 : decode cX9_ranks 153 = .ok (.dup, 1) := by decide +kernel
theorem dX9_ranks_154 : decode cX9_ranks 154 = .ok (.getfield 139, 3) := by decide +kernel
theorem dX9_ranks_157 : decode cX9_ranks 157 = .ok (.iconst 1, 1) := by decide +kernel
theorem dX9_ranks_158 : decode cX9_ranks 158 = .ok (.iadd, 1) := by decide +kernel
theorem dX9_ranks_159 : decode cX9_ranks 159 = .ok (.putfield 139, 3) := by decide +kernel
theorem dX9_ranks_16 : decode cX9_ranks 16 = .ok (.iload_n 1, 1) := by decide +kernel
theorem dX9_ranks_162 : decode cX9_ranks 162 = .ok (.iinc 4 1, 3) := by decide +kernel
theorem dX9_ranks_165 : decode cX9_ranks 165 = .ok (.goto (-46), 3) := by decide +kernel
theorem dX9_ranks_168 : decode cX9_ranks 168 = .ok (.iconst 1, 1) := by decide +kernel
theorem dX9_ranks_169 : decode cX9_ranks 169 = .ok (.ireturn, 1) := by decide +kernel
theorem dX9_ranks_17 : decode cX9_ranks 17 = .ok (.if_icmp .eq 6, 3) := by decide +kernel
theorem dX9_ranks_170 : decode cX9_ranks 170 = .ok (.iinc 3 1, 3) := by decide +kernel
theorem dX9_ranks_173 : decode cX9_ranks 173 = .ok (.goto (-148), 3) := by decide +kernel
theorem dX9_ranks_176 : decode cX9_ranks 176 = .ok (.iinc 2 1, 3) := by decide +kernel
theorem dX9_ranks_179 : decode cX9_ranks 179 = .ok (.goto (-177), 3) := by decide +kernel
theorem dX9_ranks_182 : decode cX9_ranks 182 = .ok (.iconst 0, 1) := by decide +kernel
theorem dX9_ranks_183 : decode cX9_ranks 183 = .ok (.ireturn, 1) := by decide +kernel
theorem dX9_ranks_2 : decode cX9_ranks 2 = .ok (.iload_n 2, 1) := by decide +kernel
theorem dX9_ranks_20 : decode cX9_ranks 20 = .ok (.goto 156, 3) := by decide +kernel
theorem dX9_ranks_23 : decode cX9_ranks 23 = .ok (.iconst 0, 1) := by decide +kernel
theorem dX9_ranks_24 : decode cX9_ranks 24 = .ok (.istore_n 3, 1) := by decide +kernel
theorem dX9_ranks_25 : decode cX9_ranks 25 = .ok (.iload_n 3, 1) := by decide +kernel
theorem dX9_ranks_26 : decode cX9_ranks 26 = .ok (.iconst 1, 1) := by decide +kernel
theorem dX9_ranks_27 : decode cX9_ranks 27 = .ok (.aload_n 0, 1) := by decide +kernel
theorem dX9_ranks_28 : decode cX9_ranks 28 = .ok (.getfield 47, 3) := by decide +kernel
theorem dX9_ranks_3 : decode cX9_ranks 3 = .ok (.iconst 1, 1) := by decide +kernel
theorem dX9_ranks_31 : decode cX9_ranks 31 = .ok (.ishl, 1) := by decide +kernel
theorem dX9_ranks_32 : decode cX9_ranks 32 = .ok (.if_icmp .ge 144, 3) := by decide +kernel
theorem dX9_ranks_35 : decode cX9_ranks 35 = .ok (.iload_n 3, 1) := by decide +kernel
theorem dX9_ranks_36 : decode cX9_ranks 36 = .ok (.invokestatic 128, 3) := by decide +kernel
theorem dX9_ranks_39 : decode cX9_ranks 39 = .ok (.iload_n 1, 1) := by decide +kernel
theorem dX9_ranks_4 : decode cX9_ranks 4 = .ok (.aload_n 0, 1) := by decide +kernel
theorem dX9_ranks_40 : decode cX9_ranks 40 = .ok (.if_icmp .eq 6, 3) := by decide +kernel
theorem dX9_ranks_43 : decode cX9_ranks 43 = .ok (.goto 127, 3) := by decide +kernel
theorem dX9_ranks_46 : decode cX9_ranks 46 = .ok (.iload_n 2, 1) := by decide +kernel
theorem dX9_ranks_47 : decode cX9_ranks 47 = .ok (.aload_n 0, 1) := by decide +kernel
theorem dX9_ranks_48 : decode cX9_ranks 48 = .ok (.getfield 74, 3) := by decide +kernel
theorem dX9_ranks_5 : decode cX9_ranks 5 = .ok (.getfield 102, 3) := by decide +kernel
theorem dX9_ranks_51 : decode cX9_ranks 51 = .ok (.invokestatic 131, 3) := by decide +kernel
theorem dX9_ranks_54 : decode cX9_ranks 54 = .ok (.iload_n 3, 1) := by decide +kernel
theorem dX9_ranks_55 : decode cX9_ranks 55 = .ok (.aload_n 0, 1) := by decide +kernel
theorem dX9_ranks_56 : decode cX9_ranks 56 = .ok (.getfield 71, 3) := by decide +kernel
theorem dX9_ranks_59 : decode cX9_ranks 59 = .ok (.invokestatic 131, 3) := by decide +kernel
theorem dX9_ranks_62 : decode cX9_ranks 62 = .ok (.aload_n 0, 1) := by decide +kernel
theorem dX9_ranks_63 : decode cX9_ranks 63 = .ok (.iload_n 1, 1) := by decide +kernel
theorem dX9_ranks_64 : decode cX9_ranks 64 = .ok (.aload_n 0, 1) := by decide +kernel
theorem dX9_ranks_65 : decode cX9_ranks 65 = .ok (.getfield 74, 3) := by decide +kernel
theorem dX9_ranks_68 : decode cX9_ranks 68 = .ok (.iconst 0, 1) := by decide +kernel
theorem dX9_ranks_69 : decode cX9_ranks 69 = .ok (.iaload, 1) := by decide +kernel
theorem dX9_ranks_70 : decode cX9_ranks 70 = .ok (.aload_n 0, 1) := by decide +kernel
theorem dX9_ranks_71 : decode cX9_ranks 71 = .ok (.getfield 74, 3) := by decide +kernel
theorem dX9_ranks_74 : decode cX9_ranks 74 = .ok (.iconst 1, 1) := by decide +kernel
theorem dX9_ranks_75 : decode cX9_ranks 75 = .ok (.iaload, 1) := by decide +kernel
theorem dX9_ranks_76 : decode cX9_ranks 76 = .ok (.aload_n 0, 1) := by decide +kernel
theorem dX9_ranks_77 : decode cX9_ranks 77 = .ok (.getfield 74, 3) := by decide +kernel
theorem dX9_ranks_8 : decode cX9_ranks 8 = .ok (.ishl, 1) := by decide +kernel
theorem dX9_ranks_80 : decode cX9_ranks 80 = .ok (.iconst 2, 1) := by decide +kernel
theorem dX9_ranks_81 : decode cX9_ranks 81 = .ok (.iaload, 1) := by decide +kernel
theorem dX9_ranks_82 : decode cX9_ranks 82 = .ok (.aload_n 0, 1) := by decide +kernel
theorem dX9_ranks_83 : decode cX9_ranks 83 = .ok (.getfield 71, 3) := by decide +kernel
theorem dX9_ranks_86 : decode cX9_ranks 86 = .ok (.iconst 0, 1) := by decide +kernel
theorem dX9_ranks_87 : decode cX9_ranks 87 = .ok (.iaload, 1) := by decide +kernel
theorem dX9_ranks_88 : decode cX9_ranks 88 = .ok (.aload_n 0, 1) := by decide +kernel
theorem dX9_ranks_89 : decode cX9_ranks 89 = .ok (.getfield 71, 3) := by decide +kernel
theorem dX9_ranks_9 : decode cX9_ranks 9 = .ok (.if_icmp .ge 173, 3) := by decide +kernel
theorem dX9_ranks_92 : decode cX9_ranks 92 = .ok (.iconst 1, 1) := by decide +kernel
theorem dX9_ranks_93 : decode cX9_ranks 93 = .ok (.iaload, 1) := by decide +kernel
theorem dX9_ranks_94 : decode cX9_ranks 94 = .ok (.aload_n 0, 1) := by decide +kernel
theorem dX9_ranks_95 : decode cX9_ranks 95 = .ok (.getfield 71, 3) := by decide +kernel
theorem dX9_ranks_98 : decode cX9_ranks 98 = .ok (.iconst 2, 1) := by decide +kernel
theorem dX9_ranks_99 : decode cX9_ranks 99 = .ok (.iaload, 1) := by decide +kernel
theorem dX9_sorts_0 : decode cX9_sorts 0 = .ok (.iconst 0, 1) := by decide +kernel
theorem dX9_sorts_1 : decode cX9_sorts 1 = .ok (.istore_n 1, 1) := by decide +kernel
theorem dX9_sorts_10 : decode cX9_sorts 10 = .ok (.iload_n 1, 1) := by decide +kernel
theorem dX9_sorts_11 : decode cX9_sorts 11 = .ok (.istore_n 2, 1) := by decide +kernel
theorem dX9_sorts_12 : decode cX9_sorts 12 = .ok (.iload_n 2, 1) := by decide +kernel
theorem dX9_sorts_13 : decode cX9_sorts 13 = .ok (.ifCond .le 39, 3) := by decide +kernel
theorem dX9_sorts_16 : decode cX9_sorts 16 = .ok (.aload_n 0, 1) := by decide +kernel
theorem dX9_sorts_17 : decode cX9_sorts 17 = .ok (.iload_n 1, 1) := by decide +kernel
theorem dX9_sorts_18 : decode cX9_sorts 18 = .ok (.aload_n 0, 1) := by decide +kernel
theorem dX9_sorts_19 : decode cX9_sorts 19 = .ok (.getfield 68, 3) := by decide +kernel
theorem dX9_sorts_2 : decode cX9_sorts 2 = .ok (.iload_n 1, 1) := by decide +kernel
theorem dX9_sorts_22 : decode cX9_sorts 22 = .ok (.iload_n 2, 1) := by decide +kernel
theorem dX9_sorts_23 : decode cX9_sorts 23 = .ok (.iconst 1, 1) := by decide +kernel
theorem dX9_sorts_24 : decode cX9_sorts 24 = .ok (.isub, 1) := by decide +kernel
theorem dX9_sorts_25 : decode cX9_sorts 25 = .ok (.iaload, 1) := by decide +kernel
theorem dX9_sorts_26 : decode cX9_sorts 26 = .ok (.invokevirtual 177, 3) := by decide +kernel
theorem dX9_sorts_29 : decode cX9_sorts 29 = .ok (.ifCond .eq 23, 3) := by decide +kernel
theorem dX9_sorts_3 : decode cX9_sorts 3 = .ok (.aload_n 0, 1) := by decide +kernel
theorem dX9_sorts_32 : decode cX9_sorts 32 = .ok (.aload_n 0, 1) := by decide +kernel
theorem dX9_sorts_33 : decode cX9_sorts 33 = .ok (.getfield 68, 3) := by decide +kernel
theorem dX9_sorts_36 : decode cX9_sorts 36 = .ok (.iload_n 2, 1) := by decide +kernel
theorem dX9_sorts_37 : decode cX9_sorts 37 = .ok (.aload_n 0, 1) := by decide +kernel
theorem dX9_sorts_38 : decode cX9_sorts 38 = .ok (.getfield 68, 3) := by decide +kernel
theorem dX9_sorts_4 : decode cX9_sorts 4 = .ok (.getfield 163, 3) := by decide +kernel
theorem dX9_sorts_41 : decode cX9_sorts 41 = .ok (.iload_n 2, 1) := by decide +kernel
theorem dX9_sorts_42 : decode cX9_sorts 42 = .ok (.iconst 1, 1) := by decide +kernel
theorem dX9_sorts_43 : decode cX9_sorts 43 = .ok (.isub, 1) := by decide +kernel
theorem dX9_sorts_44 : decode cX9_sorts 44 = .ok (.iaload, 1) := by decide +kernel
theorem dX9_sorts_45 : decode cX9_sorts 45 = .ok (.iastore, 1) := by decide +kernel
theorem dX9_sorts_46 : decode cX9_sorts 46 = .ok (.iinc 2 (-1), 3) := by decide +kernel
theorem dX9_sorts_49 : decode cX9_sorts 49 = .ok (.goto (-37), 3) := by decide +kernel
theorem dX9_sorts_52 : decode cX9_sorts 52 = .ok (.aload_n 0, 1) := by decide +kernel
theorem dX9_sorts_53 : decode cX9_sorts 53 = .ok (.getfield 68, 3) := by decide +kernel
theorem dX9_sorts_56 : decode cX9_sorts 56 = .ok (.iload_n 2, 1) := by decide +kernel
theorem dX9_sorts_57 : decode cX9_sorts 57 = .ok (.iload_n 1, 1) := by decide +kernel
theorem dX9_sorts_58 : decode cX9_sorts 58 = .ok (.iastore, 1) := by decide +kernel
theorem dX9_sorts_59 : decode cX9_sorts 59 = .ok (.iinc 1 1, 3) := by decide +kernel
theorem dX9_sorts_62 : decode cX9_sorts 62 = .ok (.goto (-60), 3) := by decide +kernel
theorem dX9_sorts_65 : decode cX9_sorts 65 = .ok (.return_, 1) := by decide +kernel
theorem dX9_sorts_7 : decode cX9_sorts 7 = .ok (.if_icmp .ge 58, 3) := by decide +kernel
theorem dX9_takes_0 : decode cX9_takes 0 = .ok (.iconst 0, 1) := by decide +kernel
theorem dX9_takes_1 : decode cX9_takes 1 = .ok (.istore_n 2, 1) := by decide +kernel
theorem dX9_takes_10 : decode cX9_takes 10 = .ok (.iconst 3, 1) := by decide +kernel
theorem dX9_takes_11 : decode cX9_takes 11 = .ok (.if_icmp .ge 27, 3) := by decide +kernel
theorem dX9_takes_14 : decode cX9_takes 14 = .ok (.iload_n 0, 1) := by decide +kernel
theorem dX9_takes_15 : decode cX9_takes 15 = .ok (.iload_n 3, 1) := by decide +kernel
theorem dX9_takes_16 : decode cX9_takes 16 = .ok (.ishr, 1) := by decide +kernel
theorem dX9_takes_17 : decode cX9_takes 17 = .ok (.iconst 1, 1) := by decide +kernel
theorem dX9_takes_18 : decode cX9_takes 18 = .ok (.iand, 1) := by decide +kernel
theorem dX9_takes_19 : decode cX9_takes 19 = .ok (.ifCond .ne 6, 3) := by decide +kernel
theorem dX9_takes_2 : decode cX9_takes 2 = .ok (.iconst 0, 1) := by decide +kernel
theorem dX9_takes_22 : decode cX9_takes 22 = .ok (.goto 10, 3) := by decide +kernel
theorem dX9_takes_25 : decode cX9_takes 25 = .ok (.aload_n 1, 1) := by decide +kernel
theorem dX9_takes_26 : decode cX9_takes 26 = .ok (.iload_n 2, 1) := by decide +kernel
theorem dX9_takes_27 : decode cX9_takes 27 = .ok (.iload_n 3, 1) := by decide +kernel
theorem dX9_takes_28 : decode cX9_takes 28 = .ok (.iastore, 1) := by decide +kernel
theorem dX9_takes_29 : decode cX9_takes 29 = .ok (.iinc 2 1, 3) := by decide +kernel
theorem dX9_takes_3 : decode cX9_takes 3 = .ok (.istore_n 3, 1) := by decide +kernel
theorem dX9_takes_32 : decode cX9_takes 32 = .ok (.iinc 3 1, 3) := by decide +kernel
theorem dX9_takes_35 : decode cX9_takes 35 = .ok (.goto (-31), 3) := by decide +kernel
theorem dX9_takes_38 : decode cX9_takes 38 = .ok (.iload_n 2, 1) := by decide +kernel
theorem dX9_takes_39 : decode cX9_takes 39 = .ok (.iconst 3, 1) := by decide +kernel
theorem dX9_takes_4 : decode cX9_takes 4 = .ok (.iload_n 3, 1) := by decide +kernel
theorem dX9_takes_40 : decode cX9_takes 40 = .ok (.if_icmp .ge 13, 3) := by decide +kernel
theorem dX9_takes_43 : decode cX9_takes 43 = .ok (.aload_n 1, 1) := by decide +kernel
theorem dX9_takes_44 : decode cX9_takes 44 = .ok (.iload_n 2, 1) := by decide +kernel
theorem dX9_takes_45 : decode cX9_takes 45 = .ok (.iconst 0, 1) := by decide +kernel
theorem dX9_takes_46 : decode cX9_takes 46 = .ok (.iastore, 1) := by decide +kernel
theorem dX9_takes_47 : decode cX9_takes 47 = .ok (.iinc 2 1, 3) := by decide +kernel
theorem dX9_takes_5 : decode cX9_takes 5 = .ok (.iconst 4, 1) := by decide +kernel
theorem dX9_takes_50 : decode cX9_takes 50 = .ok (.goto (-12), 3) := by decide +kernel
theorem dX9_takes_53 : decode cX9_takes 53 = .ok (.return_, 1) := by decide +kernel
theorem dX9_takes_6 : decode cX9_takes 6 = .ok (.if_icmp .ge 32, 3) := by decide +kernel
theorem dX9_takes_9 : decode cX9_takes 9 = .ok (.iload_n 2, 1) := by decide +kernel
